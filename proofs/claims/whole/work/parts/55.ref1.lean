/-! the reference: rows of 64 numbers -/
theorem hv_0 {a : Po} {x : Fq} : ∀ (n m : Nat), n ≤ m → (∀ j : Nat, n ≤ j → j < m → a j = 0) → hv a x m 0 = hv a x n 0
  | n, 0, h, _ => by rw [show n = 0 by omega]
  | n, m + 1, h, hz => by
    by_cases e : n = m + 1
    · rw [e]
    · show hv a x m (0 * x + a m) = _
      rw [hz m (by omega) (by omega), show (0 * x + 0 : Fq) = 0 by grind]
      exact hv_0 n m (by omega) (fun j h1 h2 => hz j h1 (by omega))
theorem hv_64 {a : Po} {x : Fq} (hS : Sm a) : hv a x 64 0 = val a x := by
  have hl := hi_lo a
  exact hv_0 _ 64 (by omega) (fun j h1 _ => hi_zero hS (by omega))
theorem hi_sm {a : Po} {x : Int} (h1 : -1 ≤ x) (h2 : x < 33) (h3 : 0 ≤ x → a x.toNat ≠ 0) (h4 : ∀ j : Nat, x < (j : Int) → a j = 0) : x = hi a := (hi_eq h1 h2 h3 h4).symm
theorem zr_eq {f : Po} (h : ∀ j, f j = 0) : f = zr := funext h
set_option maxHeartbeats 4000000 in
set_option maxRecDepth 100000 in
theorem c_X8_in (E : ev) (l : Launch) (v a b : Int) (v1 : -9223372036854775808 ≤ v) (v2 : v < 9223372036854775808) (a1 : -9223372036854775808 ≤ a) (a2 : a < 9223372036854775808) (b1 : -9223372036854775808 ≤ b) (b2 : b < 9223372036854775808) : Mi E l yX8_in wsX8_in { frames := 0, cells := 0, slots := 0, locals := 0 } [.long (zL v), .long (zL a), .long (zL b)] [] (fun r w => r = zI (if a ≤ v ∧ v ≤ b then 1 else 0) ∧ w = []) 0 0 := by
  refine enter_z (cc := cX8_in) (nL := 6) (by decide) rfl (Nat.le_of_ble_eq_true rfl) (fun G C hret => ?_)
  show G 0 0 [] [(0, .long (zL v)), (2, .long (zL a)), (4, .long (zL b))] 0 []
  refine g_lload_n C dX8_in_0 0 rfl ?_
  refine g_lload_n C dX8_in_1 1 rfl ?_
  refine g_lcmp_lt C 17 dX8_in_2 dX8_in_3 (by decide) (by omega) (by omega) (by omega) (by omega) (fun c_2 => ?_) (fun c_2 => ?_)
  · refine g_iconst C dX8_in_17 ?_
    exact hret _ _ _ _ _ _ dX8_in_18 (by decide) (by decide) rfl ⟨by first | rw [if_pos ⟨by omega, by omega⟩] | rw [if_neg (by omega)], rfl⟩
  · refine g_lload_n C dX8_in_6 0 rfl ?_
    refine g_lload C dX8_in_7 2 rfl ?_
    refine g_lcmp_gt C 17 dX8_in_9 dX8_in_10 (by decide) (by omega) (by omega) (by omega) (by omega) (fun c_9 => ?_) (fun c_9 => ?_)
    · refine g_iconst C dX8_in_17 ?_
      exact hret _ _ _ _ _ _ dX8_in_18 (by decide) (by decide) rfl ⟨by first | rw [if_pos ⟨by omega, by omega⟩] | rw [if_neg (by omega)], rfl⟩
    · refine g_iconst C dX8_in_13 ?_
      refine g_goto C 18 dX8_in_14 (by decide) ?_
      exact hret _ _ _ _ _ _ dX8_in_18 (by decide) (by decide) rfl ⟨by first | rw [if_pos ⟨by omega, by omega⟩] | rw [if_neg (by omega)], rfl⟩
theorem lk_X8_modulo_l32003 : Jvm.Cond.constantLong yX8_modulo.cls 63 (zL 32003) ∈ wsX8_modulo := by decide +kernel
set_option maxHeartbeats 4000000 in
set_option maxRecDepth 100000 in
theorem c_X8_modulo (E : ev) (l : Launch) (x : Int) (x1 : -9223372036854775808 ≤ x) (x2 : x < 9223372036854775808) : Ml E l yX8_modulo wsX8_modulo { frames := 0, cells := 0, slots := 0, locals := 0 } [.long (zL x)] [] (fun r w => r = zL ((cF x).val : Int) ∧ w = []) 0 0 := by
  refine enter_l (cc := cX8_modulo) (nL := 4) (by decide) rfl (Nat.le_of_ble_eq_true rfl) (fun G C hret => ?_)
  show G 0 0 [] [(0, .long (zL x))] 0 []
  have ht : -32003 < x.tmod 32003 ∧ x.tmod 32003 < 32003 := ⟨Int.lt_tmod_of_pos x (by omega), Int.tmod_lt_of_pos x (by omega)⟩
  refine g_lload_n C dX8_modulo_0 0 rfl ?_
  refine g_ldc2 C 32003 lk_X8_modulo_l32003 dX8_modulo_1 ?_
  refine g_lrem C dX8_modulo_4 (by omega) (by omega) (by omega) (by omega) ?_
  refine g_lstore_n C [(2, .long (zL (x.tmod 32003))), (0, .long (zL x))] dX8_modulo_5 (by decide) rfl ?_
  refine g_lload_n C dX8_modulo_6 0 rfl ?_
  refine g_lconst C dX8_modulo_7 ?_
  refine g_lcmp_ge C 20 dX8_modulo_8 dX8_modulo_9 (by decide) (by omega) (by omega) (by omega) (by omega) (fun c_8 => ?_) (fun c_8 => ?_)
  · refine g_lload_n C dX8_modulo_20 0 rfl ?_
    exact hret _ _ _ _ _ _ dX8_modulo_21 (by decide) (by decide) ⟨by first | (have h9 := tm_pos (show 0 ≤ x by omega); rw [h9]) | (rcases Int.lt_or_le x 0 with g | g; (have h9 := tm_neg g; congr 1; omega); (have h9 := tm_pos g; congr 1; omega)), rfl⟩
  · refine g_lload_n C dX8_modulo_12 0 rfl ?_
    refine g_ldc2 C 32003 lk_X8_modulo_l32003 dX8_modulo_13 ?_
    refine g_jadd C dX8_modulo_16 ?_
    refine g_goto C 21 dX8_modulo_17 (by decide) ?_
    exact hret _ _ _ _ _ _ dX8_modulo_21 (by decide) (by decide) ⟨by first | (have h9 := tm_pos (show 0 ≤ x by omega); rw [h9]) | (rcases Int.lt_or_le x 0 with g | g; (have h9 := tm_neg g; congr 1; omega); (have h9 := tm_pos g; congr 1; omega)), rfl⟩
theorem lk_X8_inverse_l32003 : Jvm.Cond.constantLong yX8_inverse.cls 63 (zL 32003) ∈ wsX8_inverse := by decide +kernel
set_option maxHeartbeats 4000000 in
set_option maxRecDepth 100000 in
theorem c_X8_inverse (E : ev) (l : Launch) (x : Fq) : Ml E l yX8_inverse wsX8_inverse { frames := 0, cells := 0, slots := 0, locals := 0 } [.long (zL (x.val : Int))] [] (fun r w => r = zL ((ivq x).val : Int) ∧ w = []) 0 0 := by
  refine enter_l (cc := cX8_inverse) (nL := 7) (by decide) rfl (Nat.le_of_ble_eq_true rfl) (fun G C hret => ?_)
  show G 0 0 [] [(0, .long (zL (x.val : Int)))] 0 []
  refine g_lconst C dX8_inverse_0 ?_
  refine g_lstore_n C [(2, .long (zL 1)), (0, .long (zL (x.val : Int)))] dX8_inverse_1 (by decide) rfl ?_
  refine g_lload_n C dX8_inverse_2 1 rfl ?_
  refine g_lstore C [(4, .long (zL (x.val : Int))), (2, .long (zL 1)), (0, .long (zL (x.val : Int)))] dX8_inverse_3 (by decide) rfl ?_
  refine g_sipush C dX8_inverse_5 rfl ?_
  refine g_istore C [(6, .int (zI 32001)), (4, .long (zL (x.val : Int))), (2, .long (zL 1)), (0, .long (zL (x.val : Int)))] dX8_inverse_8 (by decide) rfl ?_
  have lp_e : ∀ (n_e : Nat) (z : Int) (n : Nat) (f : Nat) (r : Fq) (s : Fq), (z = (n : Int)) → (n < 2 ^ f) → (n < 2147483648) → (ivs f n r s = ivq x) → n < n_e → G 0 0 [] [(6, .int (zI z)), (4, .long (zL (s.val : Int))), (2, .long (zL (r.val : Int))), (0, .long (zL (x.val : Int)))] 10 [] := by
    intro n_e
    induction n_e with
    | zero =>
      intro z n f r s hz hn hn2 hr hm_e
      exact absurd hm_e (by omega)
    | succ n_e ih_e =>
      intro z n f r s hz hn hn2 hr hm_e
      refine g_iload C dX8_inverse_10 0 rfl ?_
      refine g_if_le C 56 dX8_inverse_12 (by decide) (by omega) (by omega) (fun c_12 => ?_) (fun c_12 => ?_)
      · have e : r = ivq x := by rw [← hr, show n = 0 by omega]; cases f <;> rfl
        refine g_lload_n C dX8_inverse_56 2 rfl ?_
        exact hret _ _ _ _ _ _ dX8_inverse_57 (by decide) (by decide) ⟨by rw [e], rfl⟩
      · obtain ⟨f2, rfl⟩ : ∃ f2, f = f2 + 1 := ⟨f - 1, by rcases f with _ | f; simp at hn; omega; omega⟩
        rw [Nat.pow_succ] at hn
        refine g_iload C dX8_inverse_15 0 rfl ?_
        refine g_iconst C dX8_inverse_17 ?_
        refine g_irem C dX8_inverse_18 (by omega) (by omega) (by omega) (by omega) ?_
        refine g_iconst C dX8_inverse_19 ?_
        refine g_icmp_ne C 34 dX8_inverse_20 (by decide) (by omega) (by omega) (by omega) (by omega) (fun c_20 => ?_) (fun c_20 => ?_)
        · refine g_lload_n C dX8_inverse_34 2 rfl ?_
          refine g_lstore_n C [(2, .long (zL (r.val : Int))), (6, .int (zI z)), (4, .long (zL (s.val : Int))), (0, .long (zL (x.val : Int)))] dX8_inverse_35 (by decide) rfl ?_
          refine g_lload C dX8_inverse_36 2 rfl ?_
          refine g_lload C dX8_inverse_38 2 rfl ?_
          refine g_jmul C dX8_inverse_40 ?_
          refine g_ldc2 C 32003 lk_X8_inverse_l32003 dX8_inverse_41 ?_
          refine g_lmod C dX8_inverse_44 (by have := fq_mulb s s; omega) (by have := fq_mulb s s; omega) ?_
          refine g_ltop (zL ((s * s).val : Int)) (congrArg (fun u : Fq => zL (u.val : Int)) (by simp only [cF_mul, cF_of])) ?_
          refine g_lstore C [(4, .long (zL ((s * s).val : Int))), (2, .long (zL (r.val : Int))), (6, .int (zI z)), (0, .long (zL (x.val : Int)))] dX8_inverse_45 (by decide) rfl ?_
          refine g_iload C dX8_inverse_47 2 rfl ?_
          refine g_iconst C dX8_inverse_49 ?_
          refine g_idiv C dX8_inverse_50 (by omega) (by omega) (by omega) (by omega) ?_
          refine g_istore C [(6, .int (zI (z / 2))), (4, .long (zL ((s * s).val : Int))), (2, .long (zL (r.val : Int))), (0, .long (zL (x.val : Int)))] dX8_inverse_51 (by decide) rfl ?_
          refine g_goto C 10 dX8_inverse_53 (by decide) ?_
          exact ih_e (z / 2) (n / 2) f2 r (s * s) (by omega) (by omega) (by omega) (by rw [← hr, ivs_0 (by omega) (by omega)]) (by omega)
        · refine g_lload_n C dX8_inverse_23 2 rfl ?_
          refine g_lload C dX8_inverse_24 1 rfl ?_
          refine g_jmul C dX8_inverse_26 ?_
          refine g_ldc2 C 32003 lk_X8_inverse_l32003 dX8_inverse_27 ?_
          refine g_lmod C dX8_inverse_30 (by have := fq_mulb r s; omega) (by have := fq_mulb r s; omega) ?_
          refine g_ltop (zL ((r * s).val : Int)) (congrArg (fun u : Fq => zL (u.val : Int)) (by simp only [cF_mul, cF_of])) ?_
          refine g_goto C 35 dX8_inverse_31 (by decide) ?_
          refine g_lstore_n C [(2, .long (zL ((r * s).val : Int))), (6, .int (zI z)), (4, .long (zL (s.val : Int))), (0, .long (zL (x.val : Int)))] dX8_inverse_35 (by decide) rfl ?_
          refine g_lload C dX8_inverse_36 2 rfl ?_
          refine g_lload C dX8_inverse_38 2 rfl ?_
          refine g_jmul C dX8_inverse_40 ?_
          refine g_ldc2 C 32003 lk_X8_inverse_l32003 dX8_inverse_41 ?_
          refine g_lmod C dX8_inverse_44 (by have := fq_mulb s s; omega) (by have := fq_mulb s s; omega) ?_
          refine g_ltop (zL ((s * s).val : Int)) (congrArg (fun u : Fq => zL (u.val : Int)) (by simp only [cF_mul, cF_of])) ?_
          refine g_lstore C [(4, .long (zL ((s * s).val : Int))), (2, .long (zL ((r * s).val : Int))), (6, .int (zI z)), (0, .long (zL (x.val : Int)))] dX8_inverse_45 (by decide) rfl ?_
          refine g_iload C dX8_inverse_47 2 rfl ?_
          refine g_iconst C dX8_inverse_49 ?_
          refine g_idiv C dX8_inverse_50 (by omega) (by omega) (by omega) (by omega) ?_
          refine g_istore C [(6, .int (zI (z / 2))), (4, .long (zL ((s * s).val : Int))), (2, .long (zL ((r * s).val : Int))), (0, .long (zL (x.val : Int)))] dX8_inverse_51 (by decide) rfl ?_
          refine g_goto C 10 dX8_inverse_53 (by decide) ?_
          exact ih_e (z / 2) (n / 2) f2 (r * s) (s * s) (by omega) (by omega) (by omega) (by rw [← hr, ivs_1 (by omega) (by omega)]) (by omega)
  exact lp_e 32002 32001 32001 16 1 x rfl (by decide) (by omega) rfl (by omega)
set_option maxHeartbeats 4000000 in
set_option maxRecDepth 100000 in
theorem c_X8_empty (E : ev) (l : Launch) (q : Nat) (a : Po) (hS : Sm a) : Mv E l yX8_empty wsX8_empty { frames := 0, cells := 0, slots := 0, locals := 0 } [.ref q] [aJ E q a] (fun w => w = [aJ E q zr]) 0 0 := by
  refine enter_v (cc := cX8_empty) (nL := 2) (by decide) rfl (Nat.le_of_ble_eq_true rfl) (fun G C hret => ?_)
  show G 0 0 [aJ E q a] [(0, .ref q)] 0 []
  refine g_iconst C dX8_empty_0 ?_
  refine g_istore_n C [(1, .int (zI 0)), (0, .ref q)] dX8_empty_1 (by decide) rfl ?_
  have lp_e : ∀ (n_e : Nat) (x : Int) (k : Nat) (c : Po), (x = (k : Int)) → (k ≤ 64) → (∀ j : Nat, c j = if j < k then 0 else a j) → 64 - k < n_e → G 0 0 [aJ E q c] [(1, .int (zI x)), (0, .ref q)] 2 [] := by
    intro n_e
    induction n_e with
    | zero =>
      intro x k c hx hk hc hm_e
      exact absurd hm_e (by omega)
    | succ n_e ih_e =>
      intro x k c hx hk hc hm_e
      refine g_iload_n C dX8_empty_2 0 rfl ?_
      refine g_bipush C dX8_empty_3 rfl ?_
      refine g_icmp_ge C 18 dX8_empty_5 (by decide) (by omega) (by omega) (by omega) (by omega) (fun c_5 => ?_) (fun c_5 => ?_)
      · obtain rfl : c = zr := zr_eq (fun j => by rw [hc j]; split; rfl; exact hS j (by omega))
        exact hret _ _ _ _ _ dX8_empty_18 (by decide) (by decide) rfl
      · refine g_aload_n C dX8_empty_8 1 rfl ?_
        refine g_iload_n C dX8_empty_9 0 rfl ?_
        refine g_lconst C dX8_empty_10 ?_
        refine g_last C [aJ E q (cset c k 0)] 0 k 0 rfl (by omega) (by omega) (by decide) (by decide) dX8_empty_11 rfl ?_
        refine g_iinc C [(1, .int (zI (x + 1))), (0, .ref q)] dX8_empty_12 0 rfl (by decide) rfl ?_
        refine g_goto C 2 dX8_empty_15 (by decide) ?_
        exact ih_e (x + 1) (k + 1) (cset c k 0) (by omega) (by omega) (fun j => by unfold cset; split; (rw [if_pos (by omega)]); (rw [hc j]; by_cases g : j < k; (rw [if_pos g, if_pos (by omega)]); (rw [if_neg g, if_neg (by omega)]))) (by omega)
  exact lp_e 65 0 0 a rfl (by omega) (fun j => by rw [if_neg (by omega)]) (by omega)
set_option maxHeartbeats 4000000 in
set_option maxRecDepth 100000 in
theorem c_X8_copy (E : ev) (l : Launch) (q p : Nat) (a b : Po) (hS : Sm a ∧ Sm b) : Mv E l yX8_copy wsX8_copy { frames := 0, cells := 0, slots := 0, locals := 0 } [.ref q, .ref p] [aJ E q a, aJ E p b] (fun w => w = [aJ E q b, aJ E p b]) 0 0 := by
  refine enter_v (cc := cX8_copy) (nL := 3) (by decide) rfl (Nat.le_of_ble_eq_true rfl) (fun G C hret => ?_)
  show G 0 0 [aJ E q a, aJ E p b] [(0, .ref q), (1, .ref p)] 0 []
  refine g_iconst C dX8_copy_0 ?_
  refine g_istore_n C [(2, .int (zI 0)), (0, .ref q), (1, .ref p)] dX8_copy_1 (by decide) rfl ?_
  have lp_e : ∀ (n_e : Nat) (x : Int) (k : Nat) (c : Po), (x = (k : Int)) → (k ≤ 64) → (∀ j : Nat, c j = if j < k then b j else a j) → 64 - k < n_e → G 0 0 [aJ E q c, aJ E p b] [(2, .int (zI x)), (0, .ref q), (1, .ref p)] 2 [] := by
    intro n_e
    induction n_e with
    | zero =>
      intro x k c hx hk hc hm_e
      exact absurd hm_e (by omega)
    | succ n_e ih_e =>
      intro x k c hx hk hc hm_e
      refine g_iload_n C dX8_copy_2 0 rfl ?_
      refine g_bipush C dX8_copy_3 rfl ?_
      refine g_icmp_ge C 20 dX8_copy_5 (by decide) (by omega) (by omega) (by omega) (by omega) (fun c_5 => ?_) (fun c_5 => ?_)
      · obtain rfl : c = b := funext (fun j => by rw [hc j]; split; rfl; rw [hS.1 j (by omega), hS.2 j (by omega)])
        exact hret _ _ _ _ _ dX8_copy_20 (by decide) (by decide) rfl
      · refine g_aload_n C dX8_copy_8 1 rfl ?_
        refine g_iload_n C dX8_copy_9 0 rfl ?_
        refine g_aload_n C dX8_copy_10 2 rfl ?_
        refine g_iload_n C dX8_copy_11 0 rfl ?_
        refine g_lald C 1 k rfl (by omega) (by omega) (by decide) dX8_copy_12 ?_
        refine g_last C [aJ E q (cset c k (b k)), aJ E p b] 0 k (b k) rfl (by omega) (by omega) (by decide) (rfl) dX8_copy_13 rfl ?_
        refine g_iinc C [(2, .int (zI (x + 1))), (0, .ref q), (1, .ref p)] dX8_copy_14 0 rfl (by decide) rfl ?_
        refine g_goto C 2 dX8_copy_17 (by decide) ?_
        exact ih_e (x + 1) (k + 1) (cset c k (b k)) (by omega) (by omega) (fun j => by unfold cset; split; (rename_i e9; rw [if_pos (by omega), e9]); (rw [hc j]; by_cases g : j < k; (rw [if_pos g, if_pos (by omega)]); (rw [if_neg g, if_neg (by omega)]))) (by omega)
  exact lp_e 65 0 0 a rfl (by omega) (fun j => by rw [if_neg (by omega)]) (by omega)
set_option maxHeartbeats 4000000 in
set_option maxRecDepth 100000 in
theorem c_X8_high (E : ev) (l : Launch) (q : Nat) (a : Po) (hS : Sm a) : Mi E l yX8_high wsX8_high { frames := 0, cells := 0, slots := 0, locals := 0 } [.ref q] [aJ E q a] (fun r w => r = zI (hi a) ∧ w = [aJ E q a]) 0 0 := by
  refine enter_i (cc := cX8_high) (nL := 2) (by decide) rfl (Nat.le_of_ble_eq_true rfl) (fun G C hret => ?_)
  show G 0 0 [aJ E q a] [(0, .ref q)] 0 []
  refine g_bipush C dX8_high_0 rfl ?_
  refine g_istore_n C [(1, .int (zI 63)), (0, .ref q)] dX8_high_2 (by decide) rfl ?_
  have lp_e : ∀ (n_e : Nat) (x : Int) (k : Nat), (x = (k : Int) - 1) → (k ≤ 64) → (∀ j : Nat, x < (j : Int) → a j = 0) → k < n_e → G 0 0 [aJ E q a] [(1, .int (zI x)), (0, .ref q)] 3 [] := by
    intro n_e
    induction n_e with
    | zero =>
      intro x k hx hk hz hm_e
      exact absurd hm_e (by omega)
    | succ n_e ih_e =>
      intro x k hx hk hz hm_e
      refine g_iload_n C dX8_high_3 0 rfl ?_
      refine g_if_lt C 21 dX8_high_4 (by decide) (by omega) (by omega) (fun c_4 => ?_) (fun c_4 => ?_)
      · have e : x = hi a := hi_sm (by omega) (by omega) (fun g => absurd g (by omega)) hz
        refine g_iload_n C dX8_high_21 0 rfl ?_
        exact hret _ _ _ _ _ _ dX8_high_22 (by decide) (by decide) ⟨by rw [e], rfl⟩
      · obtain ⟨k2, rfl⟩ : ∃ k2, k = k2 + 1 := ⟨k - 1, by omega⟩
        refine g_aload_n C dX8_high_7 1 rfl ?_
        refine g_iload_n C dX8_high_8 0 rfl ?_
        refine g_lald C 0 k2 rfl (by omega) (by omega) (by decide) dX8_high_9 ?_
        refine g_lconst C dX8_high_10 ?_
        refine g_lcmp_ne C 21 dX8_high_11 dX8_high_12 (by decide) (by have := (a k2).isLt; omega) (by have := (a k2).isLt; omega) (by have := (a k2).isLt; omega) (by have := (a k2).isLt; omega) (fun c_11 => ?_) (fun c_11 => ?_)
        · have e : x = hi a := hi_sm (by omega) (by by_cases g : x < 33; exact g; exact absurd (hS k2 (by omega)) (fqn c_11)) (fun _ => by rw [show x.toNat = k2 by omega]; exact fqn c_11) hz
          refine g_iload_n C dX8_high_21 0 rfl ?_
          exact hret _ _ _ _ _ _ dX8_high_22 (by decide) (by decide) ⟨by rw [e], rfl⟩
        · refine g_iinc C [(1, .int (zI (x + (-1)))), (0, .ref q)] dX8_high_15 0 rfl (by decide) rfl ?_
          refine g_goto C 3 dX8_high_18 (by decide) ?_
          exact ih_e (x + -1) k2 (by omega) (by omega) (fun j h => by by_cases g : x < (j : Int); exact hz j g; (rw [show j = k2 by omega]; exact fq0 c_11)) (by omega)
  exact lp_e 65 63 64 (by omega) (by omega) (fun j h => hS j (by omega)) (by omega)
theorem lk_X8_valueAt_l32003 : Jvm.Cond.constantLong yX8_valueAt.cls 63 (zL 32003) ∈ wsX8_valueAt := by decide +kernel
set_option maxHeartbeats 4000000 in
set_option maxRecDepth 100000 in
theorem c_X8_valueAt (E : ev) (l : Launch) (q : Nat) (a : Po) (v : Fq) (hS : Sm a) : Ml E l yX8_valueAt wsX8_valueAt { frames := 0, cells := 0, slots := 0, locals := 0 } [.ref q, .long (zL (v.val : Int))] [aJ E q a] (fun r w => r = zL ((val a v).val : Int) ∧ w = [aJ E q a]) 0 0 := by
  refine enter_l (cc := cX8_valueAt) (nL := 6) (by decide) rfl (Nat.le_of_ble_eq_true rfl) (fun G C hret => ?_)
  show G 0 0 [aJ E q a] [(0, .ref q), (1, .long (zL (v.val : Int)))] 0 []
  refine g_lconst C dX8_valueAt_0 ?_
  refine g_lstore_n C [(3, .long (zL 0)), (0, .ref q), (1, .long (zL (v.val : Int)))] dX8_valueAt_1 (by decide) rfl ?_
  refine g_bipush C dX8_valueAt_2 rfl ?_
  refine g_istore C [(5, .int (zI 63)), (3, .long (zL 0)), (0, .ref q), (1, .long (zL (v.val : Int)))] dX8_valueAt_4 (by decide) rfl ?_
  have lp_e : ∀ (n_e : Nat) (x : Int) (k : Nat) (r : Fq), (x = (k : Int) - 1) → (k ≤ 64) → (hv a v k r = val a v) → k < n_e → G 0 0 [aJ E q a] [(5, .int (zI x)), (3, .long (zL (r.val : Int))), (0, .ref q), (1, .long (zL (v.val : Int)))] 6 [] := by
    intro n_e
    induction n_e with
    | zero =>
      intro x k r hx hk hr hm_e
      exact absurd hm_e (by omega)
    | succ n_e ih_e =>
      intro x k r hx hk hr hm_e
      refine g_iload C dX8_valueAt_6 0 rfl ?_
      refine g_if_lt C 30 dX8_valueAt_8 (by decide) (by omega) (by omega) (fun c_8 => ?_) (fun c_8 => ?_)
      · have e : r = val a v := by rw [← hr, show k = 0 by omega]; rfl
        refine g_lload_n C dX8_valueAt_30 1 rfl ?_
        exact hret _ _ _ _ _ _ dX8_valueAt_31 (by decide) (by decide) ⟨by rw [e], rfl⟩
      · obtain ⟨k2, rfl⟩ : ∃ k2, k = k2 + 1 := ⟨k - 1, by omega⟩
        refine g_lload_n C dX8_valueAt_11 1 rfl ?_
        refine g_lload_n C dX8_valueAt_12 3 rfl ?_
        refine g_jmul C dX8_valueAt_13 ?_
        refine g_aload_n C dX8_valueAt_14 2 rfl ?_
        refine g_iload C dX8_valueAt_15 0 rfl ?_
        refine g_lald C 0 k2 rfl (by omega) (by omega) (by decide) dX8_valueAt_17 ?_
        refine g_jadd C dX8_valueAt_18 ?_
        refine g_ldc2 C 32003 lk_X8_valueAt_l32003 dX8_valueAt_19 ?_
        refine g_lmod C dX8_valueAt_22 (by have := fq_mulb r v; have := (a k2).isLt; omega) (by have := fq_mulb r v; have := (a k2).isLt; omega) ?_
        refine g_ltop (zL ((r * v + a k2).val : Int)) (congrArg (fun u : Fq => zL (u.val : Int)) (by simp only [cF_add, cF_mul, cF_of])) ?_
        refine g_lstore_n C [(3, .long (zL ((r * v + a k2).val : Int))), (5, .int (zI x)), (0, .ref q), (1, .long (zL (v.val : Int)))] dX8_valueAt_23 (by decide) rfl ?_
        refine g_iinc C [(5, .int (zI (x + (-1)))), (3, .long (zL ((r * v + a k2).val : Int))), (0, .ref q), (1, .long (zL (v.val : Int)))] dX8_valueAt_24 1 rfl (by decide) rfl ?_
        refine g_goto C 6 dX8_valueAt_27 (by decide) ?_
        exact ih_e (x + -1) k2 (r * v + a k2) (by omega) (by omega) (by rw [← hr]; rfl) (by omega)
  exact lp_e 65 63 64 0 (by omega) (by omega) (hv_64 hS) (by omega)
theorem lk_X8_move_l32003 : Jvm.Cond.constantLong yX8_move.cls 63 (zL 32003) ∈ wsX8_move := by decide +kernel
set_option maxHeartbeats 4000000 in
set_option maxRecDepth 100000 in
theorem c_X8_move (E : ev) (l : Launch) (q : Nat) (a : Po) (d : Fq) (hS : Sm a) : Mv E l yX8_move wsX8_move { frames := 1, cells := 0, slots := 0, locals := 30 } [.ref q, .long (zL (d.val : Int))] [aJ E q a] (fun w => w = [aJ E q (mvp a d)]) 0 0 := by
  refine enter_v (cc := cX8_move) (nL := 6) (by decide) rfl (Nat.le_of_ble_eq_true rfl) (fun G C hret => ?_)
  show G 0 0 [aJ E q a] [(0, .ref q), (1, .long (zL (d.val : Int)))] 0 []
  have hlo := hi_lo a
  refine g_aload_n C dX8_move_0 0 rfl ?_
  refine g_callSCi (n := 1) (wr := []) C (c_X8_high E l q a hS) gX8_move_X8_high rfl (by decide +kernel) rfl (by decide) dX8_move_1 rfl (Nat.le_of_ble_eq_true rfl) [0] [] rfl rfl (by decide) (fun r_1 w_1 h_1 => ?_)
  obtain ⟨rfl, rfl⟩ := h_1
  refine g_eq (ws' := [aJ E q a]) rfl rfl rfl ?_
  refine g_istore_n C [(3, .int (zI (hi a))), (0, .ref q), (1, .long (zL (d.val : Int)))] dX8_move_4 (by decide) rfl ?_
  refine g_iconst C dX8_move_5 ?_
  refine g_istore C [(4, .int (zI 0)), (3, .int (zI (hi a))), (0, .ref q), (1, .long (zL (d.val : Int)))] dX8_move_6 (by decide) rfl ?_
  have lp_o : ∀ (n_o : Nat) (x : Int) (s : Nat) (c : Po), (x = (s : Int)) → (s ≤ (hi a).toNat) → (mo d (hi a).toNat s ((hi a).toNat - s) c = mvp a d) → (hi a).toNat - s < n_o → G 0 0 [aJ E q c] [(4, .int (zI x)), (3, .int (zI (hi a))), (0, .ref q), (1, .long (zL (d.val : Int)))] 8 [] := by
    intro n_o
    induction n_o with
    | zero =>
      intro x s c hx hs hm hm_o
      exact absurd hm_o (by omega)
    | succ n_o ih_o =>
      intro x s c hx hs hm hm_o
      refine g_iload C dX8_move_8 0 rfl ?_
      refine g_iload_n C dX8_move_10 1 rfl ?_
      refine g_icmp_ge C 59 dX8_move_11 (by decide) (by omega) (by omega) (by omega) (by omega) (fun c_11 => ?_) (fun c_11 => ?_)
      · have e1 : c = mvp a d := by rw [← hm, show (hi a).toNat - s = 0 by omega]; rfl
        subst e1
        exact hret _ _ _ _ _ dX8_move_59 (by decide) (by decide) rfl
      · obtain ⟨m, hm2⟩ : ∃ m, (hi a).toNat - s = m + 1 := ⟨(hi a).toNat - s - 1, by omega⟩
        have hm4 : mo d (hi a).toNat (s + 1) m (mi d s ((hi a).toNat - s) c) = mvp a d := by have h9 := hm; rw [hm2] at h9; exact h9
        refine g_iload_n C dX8_move_14 1 rfl ?_
        refine g_iconst C dX8_move_15 ?_
        refine g_isub C dX8_move_16 ?_
        refine g_istore C [(5, .int (zI ((hi a) - 1))), (4, .int (zI x)), (3, .int (zI (hi a))), (0, .ref q), (1, .long (zL (d.val : Int)))] dX8_move_17 (by decide) rfl ?_
        have lp_i : ∀ (n_i : Nat) (y : Int) (n : Nat) (c2 : Po), (y = (s : Int) + (n : Int) - 1) → (s + n ≤ (hi a).toNat) → (mo d (hi a).toNat (s + 1) m (mi d s n c2) = mvp a d) → n < n_i → G 0 0 [aJ E q c2] [(5, .int (zI y)), (4, .int (zI x)), (3, .int (zI (hi a))), (0, .ref q), (1, .long (zL (d.val : Int)))] 19 [] := by
          intro n_i
          induction n_i with
          | zero =>
            intro y n c2 hy hn hm3 hm_i
            exact absurd hm_i (by omega)
          | succ n_i ih_i =>
            intro y n c2 hy hn hm3 hm_i
            refine g_iload C dX8_move_19 0 rfl ?_
            refine g_iload C dX8_move_21 1 rfl ?_
            refine g_icmp_lt C 53 dX8_move_23 (by decide) (by omega) (by omega) (by omega) (by omega) (fun c_23 => ?_) (fun c_23 => ?_)
            · refine g_iinc C [(4, .int (zI (x + 1))), (5, .int (zI y)), (3, .int (zI (hi a))), (0, .ref q), (1, .long (zL (d.val : Int)))] dX8_move_53 1 rfl (by decide) rfl ?_
              refine g_goto C 8 dX8_move_56 (by decide) ?_
              refine g_lsub C [0, 2, 3, 4] rfl ?_
              exact ih_o (x + 1) (s + 1) c2 (by omega) (by omega) (by rw [← hm3, show n = 0 by omega, show (hi a).toNat - (s + 1) = m by omega]; rfl) (by omega)
            · obtain ⟨n2, rfl⟩ : ∃ n2, n = n2 + 1 := ⟨n - 1, by omega⟩
              refine g_aload_n C dX8_move_26 3 rfl ?_
              refine g_iload C dX8_move_27 0 rfl ?_
              refine g_aload_n C dX8_move_29 3 rfl ?_
              refine g_iload C dX8_move_30 0 rfl ?_
              refine g_lald C 0 (s + n2) rfl (by omega) (by omega) (by decide) dX8_move_32 ?_
              refine g_lload_n C dX8_move_33 4 rfl ?_
              refine g_aload_n C dX8_move_34 3 rfl ?_
              refine g_iload C dX8_move_35 0 rfl ?_
              refine g_iconst C dX8_move_37 ?_
              refine g_iadd C dX8_move_38 ?_
              refine g_lald C 0 (s + n2 + 1) rfl (by omega) (by omega) (by decide) dX8_move_39 ?_
              refine g_jmul C dX8_move_40 ?_
              refine g_jadd C dX8_move_41 ?_
              refine g_ldc2 C 32003 lk_X8_move_l32003 dX8_move_42 ?_
              refine g_lmod C dX8_move_45 (by have := fq_mulb d (c2 (s + n2 + 1)); have := (c2 (s + n2)).isLt; omega) (by have := fq_mulb d (c2 (s + n2 + 1)); have := (c2 (s + n2)).isLt; omega) ?_
              refine g_ltop (zL ((c2 (s + n2) + d * c2 (s + n2 + 1)).val : Int)) (congrArg (fun u : Fq => zL (u.val : Int)) (by simp only [cF_add, cF_mul, cF_of])) ?_
              refine g_last C [aJ E q (cset c2 (s + n2) (c2 (s + n2) + d * c2 (s + n2 + 1)))] 0 (s + n2) (c2 (s + n2) + d * c2 (s + n2 + 1)) rfl (by omega) (by omega) (by decide) (rfl) dX8_move_46 rfl ?_
              refine g_iinc C [(5, .int (zI (y + (-1)))), (4, .int (zI x)), (3, .int (zI (hi a))), (0, .ref q), (1, .long (zL (d.val : Int)))] dX8_move_47 0 rfl (by decide) rfl ?_
              refine g_goto C 19 dX8_move_50 (by decide) ?_
              exact ih_i (y + -1) n2 (cset c2 (s + n2) (c2 (s + n2) + d * c2 (s + n2 + 1))) (by omega) (by omega) hm3 (by omega)
        exact lp_i 65 ((hi a) - 1) ((hi a).toNat - s) c (by omega) (by omega) hm4 (by omega)
  exact lp_o 65 0 0 a rfl (by omega) rfl (by omega)
