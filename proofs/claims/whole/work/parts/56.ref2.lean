/-- the product, from the power n - 1 of the first down -/
def mu (a b : Po) : Nat → Po → Po
  | 0, c => c
  | n + 1, c => mu a b n (am c (a n) b n)
theorem mu_at (a b : Po) : ∀ (n : Nat) (c : Po) (j : Nat), mu a b n c j = c j + sm (fun i => if i ≤ j then a i * b (j - i) else 0) n
  | 0, c, j => by show c j = c j + 0; grind
  | n + 1, c, j => by
    show mu a b n _ j = c j + (sm _ n + if n ≤ j then a n * b (j - n) else 0)
    rw [mu_at a b n _ j]
    unfold am
    split <;> grind
theorem mu_conv {a b : Po} (hS : Sm a) : mu a b (hi a + 1).toNat zr = conv a b := by
  funext j
  have hl := hi_lo a
  rw [mu_at]
  unfold conv
  rw [sm_refl (fun i => a (j - i) * b i) (j + 1)]
  rw [sm_congr (n := j + 1) (f := fun i => a (j - (j + 1 - 1 - i)) * b (j + 1 - 1 - i)) (g := fun i => if i ≤ j then a i * b (j - i) else 0) (fun i hi => by show a _ * b _ = _; rw [if_pos (by omega), show j - (j + 1 - 1 - i) = i by omega, show j + 1 - 1 - i = j - i by omega])]
  show (0 : Fq) + _ = _
  have e : ∀ k : Nat, (hi a + 1).toNat ≤ k → (fun i => if i ≤ j then a i * b (j - i) else (0 : Fq)) k = 0 := fun k hk => by
    show (if k ≤ j then a k * b (j - k) else (0 : Fq)) = 0
    rw [hi_zero hS (show hi a < (k : Int) by omega)]; split <;> grind
  have e2 : ∀ k : Nat, j + 1 ≤ k → (fun i => if i ≤ j then a i * b (j - i) else (0 : Fq)) k = 0 := fun k hk => if_neg (by omega)
  rcases Nat.le_total (hi a + 1).toNat (j + 1) with g | g
  · rw [sm_more g (fun i h1 _ => e i h1)]; grind
  · rw [sm_more g (fun i h1 _ => e2 i h1)]; grind
theorem am_in {c c2 b : Po} {f : Fq} {n k : Nat} (hc : ∀ j : Nat, c2 j = if n ≤ j ∧ j < n + k then c j + f * b (j - n) else c j) (hz : f = 0 ∨ ∀ j : Nat, k ≤ j → b j = 0) : c2 = am c f b n := by
  funext j
  rw [hc j]; unfold am
  by_cases g : n ≤ j
  · rw [if_pos g]
    by_cases g2 : j < n + k
    · rw [if_pos ⟨g, g2⟩]
    · rw [if_neg (by omega)]
      rcases hz with hz | hz
      · rw [hz]; grind
      · rw [hz (j - n) (by omega)]; grind
  · rw [if_neg g, if_neg (by omega)]
theorem am_next {c c2 b : Po} {f v : Fq} {n k : Nat} (hc : ∀ j : Nat, c2 j = if n ≤ j ∧ j < n + k then c j + f * b (j - n) else c j) (hv : v = c (n + k) + f * b k) (j : Nat) : cset c2 (n + k) v j = if n ≤ j ∧ j < n + (k + 1) then c j + f * b (j - n) else c j := by
  unfold cset
  by_cases g : j = n + k
  · rw [if_pos g, if_pos (by omega), hv, g, show n + k - n = k by omega]
  · rw [if_neg g, hc j]
    by_cases g2 : n ≤ j ∧ j < n + k
    · rw [if_pos g2, if_pos (by omega)]
    · rw [if_neg g2, if_neg (by omega)]
theorem am_here {c c2 b : Po} {f : Fq} {n k : Nat} (hc : ∀ j : Nat, c2 j = if n ≤ j ∧ j < n + k then c j + f * b (j - n) else c j) : c2 (n + k) = c (n + k) := by rw [hc, if_neg (by omega)]
theorem in_X8_multiply_X8 : ∀ w ∈ u_ws RX8 TX8 18, w ∈ wsX8_multiply := by decide +kernel
theorem lk_X8_multiply_x : Cond.fieldLink yX8_multiply.cls 44 (TX8 13).1 (TX8 13).2.1 (TX8 13).2.2.1 ∈ wsX8_multiply := by decide +kernel
theorem lk_X8_multiply_l32003 : Jvm.Cond.constantLong yX8_multiply.cls 63 (zL 32003) ∈ wsX8_multiply := by decide +kernel
set_option maxHeartbeats 4000000 in
set_option maxRecDepth 100000 in
theorem c_X8_multiply (E : ev) (l : Launch) (m : Nat → Nat) (kc le : Int) (p q : Nat) (a b x0 : Po) (hS : Sm a ∧ Sm b ∧ Sm x0) (hab : hi a + hi b < 33) : Mv E l yX8_multiply wsX8_multiply { frames := 1, cells := 0, slots := 0, locals := 30 } [.ref (m 0), .ref p, .ref q] [(m 0, .inr (8, [.int (zI kc), .ref (m 1), .ref (m 2), .ref (m 3), .ref (m 4), .ref (m 5), .ref (m 6), .int (zI le), .ref (m 7), .ref (m 8), .ref (m 9), .ref (m 10), .ref (m 11), .ref (m 12), .ref (m 13), .ref (m 14), .ref (m 15), .ref (m 16)])), aJ E (m 12) x0, aJ E p a, aJ E q b] (fun w => w = [(m 0, .inr (8, [.int (zI kc), .ref (m 1), .ref (m 2), .ref (m 3), .ref (m 4), .ref (m 5), .ref (m 6), .int (zI le), .ref (m 7), .ref (m 8), .ref (m 9), .ref (m 10), .ref (m 11), .ref (m 12), .ref (m 13), .ref (m 14), .ref (m 15), .ref (m 16)])), aJ E (m 12) (conv a b), aJ E p a, aJ E q b]) 0 0 := by
  refine enter_v (cc := cX8_multiply) (nL := 6) (by decide) rfl (Nat.le_of_ble_eq_true rfl) (fun G C hret => ?_)
  show G 0 0 [(m 0, .inr (8, [.int (zI kc), .ref (m 1), .ref (m 2), .ref (m 3), .ref (m 4), .ref (m 5), .ref (m 6), .int (zI le), .ref (m 7), .ref (m 8), .ref (m 9), .ref (m 10), .ref (m 11), .ref (m 12), .ref (m 13), .ref (m 14), .ref (m 15), .ref (m 16)])), aJ E (m 12) x0, aJ E p a, aJ E q b] [(0, .ref (m 0)), (1, .ref p), (2, .ref q)] 0 []
  have hla := hi_lo a
  have hlb := hi_lo b
  refine g_aload_n C dX8_multiply_0 0 rfl ?_
  refine g_get C 0 rfl rfl 13 (by decide) in_X8_multiply_X8 lk_X8_multiply_x rfl dX8_multiply_1 ?_
  refine g_callSCv (n := 1) (wr := [(m 0, .inr (8, [.int (zI kc), .ref (m 1), .ref (m 2), .ref (m 3), .ref (m 4), .ref (m 5), .ref (m 6), .int (zI le), .ref (m 7), .ref (m 8), .ref (m 9), .ref (m 10), .ref (m 11), .ref (m 12), .ref (m 13), .ref (m 14), .ref (m 15), .ref (m 16)])), aJ E p a, aJ E q b]) C (c_X8_empty E l (m 12) x0 hS.2.2) gX8_multiply_X8_empty rfl (by decide +kernel) rfl (by decide) dX8_multiply_4 rfl (Nat.le_of_ble_eq_true rfl) [1] [0, 2, 3] rfl rfl (by decide) (fun w_4 h_4 => ?_)
  obtain rfl := h_4
  refine g_eq (ws' := [(m 0, .inr (8, [.int (zI kc), .ref (m 1), .ref (m 2), .ref (m 3), .ref (m 4), .ref (m 5), .ref (m 6), .int (zI le), .ref (m 7), .ref (m 8), .ref (m 9), .ref (m 10), .ref (m 11), .ref (m 12), .ref (m 13), .ref (m 14), .ref (m 15), .ref (m 16)])), aJ E p a, aJ E q b, aJ E (m 12) zr]) rfl rfl rfl ?_
  refine g_aload_n C dX8_multiply_7 2 rfl ?_
  refine g_callSCi (n := 1) (wr := [(m 0, .inr (8, [.int (zI kc), .ref (m 1), .ref (m 2), .ref (m 3), .ref (m 4), .ref (m 5), .ref (m 6), .int (zI le), .ref (m 7), .ref (m 8), .ref (m 9), .ref (m 10), .ref (m 11), .ref (m 12), .ref (m 13), .ref (m 14), .ref (m 15), .ref (m 16)])), aJ E p a, aJ E (m 12) zr]) C (c_X8_high E l q b hS.2.1) gX8_multiply_X8_high rfl (by decide +kernel) rfl (by decide) dX8_multiply_8 rfl (Nat.le_of_ble_eq_true rfl) [2] [0, 1, 3] rfl rfl (by decide) (fun r_8 w_8 h_8 => ?_)
  obtain ⟨rfl, rfl⟩ := h_8
  refine g_eq (ws' := [(m 0, .inr (8, [.int (zI kc), .ref (m 1), .ref (m 2), .ref (m 3), .ref (m 4), .ref (m 5), .ref (m 6), .int (zI le), .ref (m 7), .ref (m 8), .ref (m 9), .ref (m 10), .ref (m 11), .ref (m 12), .ref (m 13), .ref (m 14), .ref (m 15), .ref (m 16)])), aJ E p a, aJ E (m 12) zr, aJ E q b]) rfl rfl rfl ?_
  refine g_istore_n C [(3, .int (zI (hi b))), (0, .ref (m 0)), (1, .ref p), (2, .ref q)] dX8_multiply_11 (by decide) rfl ?_
  refine g_aload_n C dX8_multiply_12 2 rfl ?_
  refine g_callSCi (n := 1) (wr := [(m 0, .inr (8, [.int (zI kc), .ref (m 1), .ref (m 2), .ref (m 3), .ref (m 4), .ref (m 5), .ref (m 6), .int (zI le), .ref (m 7), .ref (m 8), .ref (m 9), .ref (m 10), .ref (m 11), .ref (m 12), .ref (m 13), .ref (m 14), .ref (m 15), .ref (m 16)])), aJ E (m 12) zr, aJ E q b]) C (c_X8_high E l p a hS.1) gX8_multiply_X8_high rfl (by decide +kernel) rfl (by decide) dX8_multiply_13 rfl (Nat.le_of_ble_eq_true rfl) [1] [0, 2, 3] rfl rfl (by decide) (fun r_13 w_13 h_13 => ?_)
  obtain ⟨rfl, rfl⟩ := h_13
  refine g_eq (ws' := [(m 0, .inr (8, [.int (zI kc), .ref (m 1), .ref (m 2), .ref (m 3), .ref (m 4), .ref (m 5), .ref (m 6), .int (zI le), .ref (m 7), .ref (m 8), .ref (m 9), .ref (m 10), .ref (m 11), .ref (m 12), .ref (m 13), .ref (m 14), .ref (m 15), .ref (m 16)])), aJ E (m 12) zr, aJ E q b, aJ E p a]) rfl rfl rfl ?_
  refine g_istore C [(4, .int (zI (hi a))), (3, .int (zI (hi b))), (0, .ref (m 0)), (1, .ref p), (2, .ref q)] dX8_multiply_16 (by decide) rfl ?_
  have lp_o : ∀ (n_o : Nat) (x : Int) (n : Nat) (c : Po), (x = (n : Int) - 1) → (x ≤ hi a) → (mu a b n c = conv a b) → n < n_o → G 0 0 [(m 0, .inr (8, [.int (zI kc), .ref (m 1), .ref (m 2), .ref (m 3), .ref (m 4), .ref (m 5), .ref (m 6), .int (zI le), .ref (m 7), .ref (m 8), .ref (m 9), .ref (m 10), .ref (m 11), .ref (m 12), .ref (m 13), .ref (m 14), .ref (m 15), .ref (m 16)])), aJ E (m 12) c, aJ E p a, aJ E q b] [(4, .int (zI x)), (3, .int (zI (hi b))), (0, .ref (m 0)), (1, .ref p), (2, .ref q)] 18 [] := by
    intro n_o
    induction n_o with
    | zero =>
      intro x n c hx hn hm hm_o
      exact absurd hm_o (by omega)
    | succ n_o ih_o =>
      intro x n c hx hn hm hm_o
      refine g_iload C dX8_multiply_18 0 rfl ?_
      refine g_if_lt C 78 dX8_multiply_20 (by decide) (by omega) (by omega) (fun c_20 => ?_) (fun c_20 => ?_)
      · obtain rfl : c = conv a b := by rw [← hm, show n = 0 by omega]; rfl
        exact hret _ _ _ _ _ dX8_multiply_78 (by decide) (by decide) rfl
      · obtain ⟨n2, rfl⟩ : ∃ n2, n = n2 + 1 := ⟨n - 1, by omega⟩
        refine g_iconst C dX8_multiply_23 ?_
        refine g_istore C [(5, .int (zI 0)), (4, .int (zI x)), (3, .int (zI (hi b))), (0, .ref (m 0)), (1, .ref p), (2, .ref q)] dX8_multiply_24 (by decide) rfl ?_
        have lp_i : ∀ (n_i : Nat) (y : Int) (k : Nat) (c2 : Po), (y = (k : Int)) → (y ≤ hi b + 1) → (∀ j : Nat, c2 j = if n2 ≤ j ∧ j < n2 + k then c j + a n2 * b (j - n2) else c j) → (hi b + 1).toNat - k < n_i → G 0 0 [(m 0, .inr (8, [.int (zI kc), .ref (m 1), .ref (m 2), .ref (m 3), .ref (m 4), .ref (m 5), .ref (m 6), .int (zI le), .ref (m 7), .ref (m 8), .ref (m 9), .ref (m 10), .ref (m 11), .ref (m 12), .ref (m 13), .ref (m 14), .ref (m 15), .ref (m 16)])), aJ E (m 12) c2, aJ E p a, aJ E q b] [(5, .int (zI y)), (4, .int (zI x)), (3, .int (zI (hi b))), (0, .ref (m 0)), (1, .ref p), (2, .ref q)] 26 [] := by
          intro n_i
          induction n_i with
          | zero =>
            intro y k c2 hy hk hc2 hm_i
            exact absurd hm_i (by omega)
          | succ n_i ih_i =>
            intro y k c2 hy hk hc2 hm_i
            refine g_iload C dX8_multiply_26 0 rfl ?_
            refine g_iload_n C dX8_multiply_28 2 rfl ?_
            refine g_icmp_gt C 72 dX8_multiply_29 (by decide) (by omega) (by omega) (by omega) (by omega) (fun c_29 => ?_) (fun c_29 => ?_)
            · refine g_iinc C [(4, .int (zI (x + (-1)))), (5, .int (zI y)), (3, .int (zI (hi b))), (0, .ref (m 0)), (1, .ref p), (2, .ref q)] dX8_multiply_72 1 rfl (by decide) rfl ?_
              refine g_goto C 18 dX8_multiply_75 (by decide) ?_
              refine g_lsub C [0, 2, 3, 4, 5] rfl ?_
              exact ih_o (x + -1) n2 c2 (by omega) (by omega) (by rw [← hm, am_in hc2 (Or.inr (fun j hj => hi_zero hS.2.1 (by omega)))]; rfl) (by omega)
            · refine g_aload_n C dX8_multiply_32 3 rfl ?_
              refine g_get C 0 rfl rfl 13 (by decide) in_X8_multiply_X8 lk_X8_multiply_x rfl dX8_multiply_33 ?_
              refine g_iload C dX8_multiply_36 1 rfl ?_
              refine g_iload C dX8_multiply_38 0 rfl ?_
              refine g_iadd C dX8_multiply_40 ?_
              refine g_aload_n C dX8_multiply_41 3 rfl ?_
              refine g_get C 0 rfl rfl 13 (by decide) in_X8_multiply_X8 lk_X8_multiply_x rfl dX8_multiply_42 ?_
              refine g_iload C dX8_multiply_45 1 rfl ?_
              refine g_iload C dX8_multiply_47 0 rfl ?_
              refine g_iadd C dX8_multiply_49 ?_
              refine g_lald C 1 (n2 + k) rfl (by omega) (by omega) (by decide) dX8_multiply_50 ?_
              refine g_aload_n C dX8_multiply_51 4 rfl ?_
              refine g_iload C dX8_multiply_52 1 rfl ?_
              refine g_lald C 2 n2 rfl (by omega) (by omega) (by decide) dX8_multiply_54 ?_
              refine g_aload_n C dX8_multiply_55 5 rfl ?_
              refine g_iload C dX8_multiply_56 0 rfl ?_
              refine g_lald C 3 k rfl (by omega) (by omega) (by decide) dX8_multiply_58 ?_
              refine g_jmul C dX8_multiply_59 ?_
              refine g_jadd C dX8_multiply_60 ?_
              refine g_ldc2 C 32003 lk_X8_multiply_l32003 dX8_multiply_61 ?_
              refine g_lmod C dX8_multiply_64 (by have := fq_mulb (a n2) (b k); have := (c2 (n2 + k)).isLt; omega) (by have := fq_mulb (a n2) (b k); have := (c2 (n2 + k)).isLt; omega) ?_
              refine g_ltop (zL ((c2 (n2 + k) + a n2 * b k).val : Int)) (congrArg (fun u : Fq => zL (u.val : Int)) (by simp only [cF_add, cF_mul, cF_of])) ?_
              refine g_last C [(m 0, .inr (8, [.int (zI kc), .ref (m 1), .ref (m 2), .ref (m 3), .ref (m 4), .ref (m 5), .ref (m 6), .int (zI le), .ref (m 7), .ref (m 8), .ref (m 9), .ref (m 10), .ref (m 11), .ref (m 12), .ref (m 13), .ref (m 14), .ref (m 15), .ref (m 16)])), aJ E (m 12) (cset c2 (n2 + k) (c2 (n2 + k) + a n2 * b k)), aJ E p a, aJ E q b] 1 (n2 + k) (c2 (n2 + k) + a n2 * b k) rfl (by omega) (by omega) (by decide) (rfl) dX8_multiply_65 rfl ?_
              refine g_iinc C [(5, .int (zI (y + 1))), (4, .int (zI x)), (3, .int (zI (hi b))), (0, .ref (m 0)), (1, .ref p), (2, .ref q)] dX8_multiply_66 0 rfl (by decide) rfl ?_
              refine g_goto C 26 dX8_multiply_69 (by decide) ?_
              exact ih_i (y + 1) (k + 1) (cset c2 (n2 + k) (c2 (n2 + k) + a n2 * b k)) (by omega) (by omega) (am_next hc2 (by rw [am_here hc2])) (by omega)
        exact lp_i 65 0 0 c rfl (by omega) (fun j => by rw [if_neg (by omega)]) (by omega)
  refine g_wsub (ws' := [(m 0, .inr (8, [.int (zI kc), .ref (m 1), .ref (m 2), .ref (m 3), .ref (m 4), .ref (m 5), .ref (m 6), .int (zI le), .ref (m 7), .ref (m 8), .ref (m 9), .ref (m 10), .ref (m 11), .ref (m 12), .ref (m 13), .ref (m 14), .ref (m 15), .ref (m 16)])), aJ E (m 12) zr, aJ E p a, aJ E q b]) C [0, 1, 3, 2] (by decide) rfl rfl ?_
  exact lp_o 65 (hi a) (hi a + 1).toNat zr (by omega) (by omega) (mu_conv hS.1) (by omega)
theorem in_X8_divide_X8 : ∀ w ∈ u_ws RX8 TX8 18, w ∈ wsX8_divide := by decide +kernel
theorem lk_X8_divide_quotient : Cond.fieldLink yX8_divide.cls 47 (TX8 14).1 (TX8 14).2.1 (TX8 14).2.2.1 ∈ wsX8_divide := by decide +kernel
theorem lk_X8_divide_l32003 : Jvm.Cond.constantLong yX8_divide.cls 63 (zL 32003) ∈ wsX8_divide := by decide +kernel
set_option maxHeartbeats 4000000 in
set_option maxRecDepth 100000 in
theorem c_X8_divide (E : ev) (l : Launch) (m : Nat → Nat) (kc le : Int) (p q : Nat) (a b g0 : Po) (hS : Sm a ∧ Sm b ∧ Sm g0) (hb : 0 ≤ hi b) : Mv E l yX8_divide wsX8_divide { frames := 1, cells := 0, slots := 0, locals := 30 } [.ref (m 0), .ref p, .ref q] [(m 0, .inr (8, [.int (zI kc), .ref (m 1), .ref (m 2), .ref (m 3), .ref (m 4), .ref (m 5), .ref (m 6), .int (zI le), .ref (m 7), .ref (m 8), .ref (m 9), .ref (m 10), .ref (m 11), .ref (m 12), .ref (m 13), .ref (m 14), .ref (m 15), .ref (m 16)])), aJ E (m 13) g0, aJ E p a, aJ E q b] (fun w => w = [(m 0, .inr (8, [.int (zI kc), .ref (m 1), .ref (m 2), .ref (m 3), .ref (m 4), .ref (m 5), .ref (m 6), .int (zI le), .ref (m 7), .ref (m 8), .ref (m 9), .ref (m 10), .ref (m 11), .ref (m 12), .ref (m 13), .ref (m 14), .ref (m 15), .ref (m 16)])), aJ E (m 13) (quo a b), aJ E p (rem a b), aJ E q b]) 0 0 := by
  refine enter_v (cc := cX8_divide) (nL := 10) (by decide) rfl (Nat.le_of_ble_eq_true rfl) (fun G C hret => ?_)
  show G 0 0 [(m 0, .inr (8, [.int (zI kc), .ref (m 1), .ref (m 2), .ref (m 3), .ref (m 4), .ref (m 5), .ref (m 6), .int (zI le), .ref (m 7), .ref (m 8), .ref (m 9), .ref (m 10), .ref (m 11), .ref (m 12), .ref (m 13), .ref (m 14), .ref (m 15), .ref (m 16)])), aJ E (m 13) g0, aJ E p a, aJ E q b] [(0, .ref (m 0)), (1, .ref p), (2, .ref q)] 0 []
  have hla := hi_lo a
  have hlb := hi_lo b
  refine g_aload_n C dX8_divide_0 2 rfl ?_
  refine g_callSCi (n := 1) (wr := [(m 0, .inr (8, [.int (zI kc), .ref (m 1), .ref (m 2), .ref (m 3), .ref (m 4), .ref (m 5), .ref (m 6), .int (zI le), .ref (m 7), .ref (m 8), .ref (m 9), .ref (m 10), .ref (m 11), .ref (m 12), .ref (m 13), .ref (m 14), .ref (m 15), .ref (m 16)])), aJ E (m 13) g0, aJ E p a]) C (c_X8_high E l q b hS.2.1) gX8_divide_X8_high rfl (by decide +kernel) rfl (by decide) dX8_divide_1 rfl (Nat.le_of_ble_eq_true rfl) [3] [0, 1, 2] rfl rfl (by decide) (fun r_1 w_1 h_1 => ?_)
  obtain ⟨rfl, rfl⟩ := h_1
  refine g_eq (ws' := [(m 0, .inr (8, [.int (zI kc), .ref (m 1), .ref (m 2), .ref (m 3), .ref (m 4), .ref (m 5), .ref (m 6), .int (zI le), .ref (m 7), .ref (m 8), .ref (m 9), .ref (m 10), .ref (m 11), .ref (m 12), .ref (m 13), .ref (m 14), .ref (m 15), .ref (m 16)])), aJ E (m 13) g0, aJ E p a, aJ E q b]) rfl rfl rfl ?_
  refine g_istore_n C [(3, .int (zI (hi b))), (0, .ref (m 0)), (1, .ref p), (2, .ref q)] dX8_divide_4 (by decide) rfl ?_
  refine g_aload_n C dX8_divide_5 3 rfl ?_
  refine g_iload_n C dX8_divide_6 0 rfl ?_
  refine g_lald C 3 ((hi b).toNat) rfl (by omega) (by omega) (by decide) dX8_divide_7 ?_
  refine g_ltop (zL ((nm b (hi b)).val : Int)) (by rw [nm_pos hb]) ?_
  refine g_callSOl (n := 1) C (c_X8_inverse E l (nm b (hi b))) gX8_divide_X8_inverse rfl (by decide +kernel) rfl (by decide) dX8_divide_8 rfl (Nat.le_of_ble_eq_true rfl) (fun r_8 h_8 => ?_)
  obtain ⟨_, rfl, -⟩ := h_8
  refine g_lstore C [(4, .long (zL ((ivq (nm b (hi b))).val : Int))), (3, .int (zI (hi b))), (0, .ref (m 0)), (1, .ref p), (2, .ref q)] dX8_divide_11 (by decide) rfl ?_
  refine g_aload_n C dX8_divide_13 2 rfl ?_
  refine g_get C 0 rfl rfl 14 (by decide) in_X8_divide_X8 lk_X8_divide_quotient rfl dX8_divide_14 ?_
  refine g_callSCv (n := 1) (wr := [(m 0, .inr (8, [.int (zI kc), .ref (m 1), .ref (m 2), .ref (m 3), .ref (m 4), .ref (m 5), .ref (m 6), .int (zI le), .ref (m 7), .ref (m 8), .ref (m 9), .ref (m 10), .ref (m 11), .ref (m 12), .ref (m 13), .ref (m 14), .ref (m 15), .ref (m 16)])), aJ E p a, aJ E q b]) C (c_X8_empty E l (m 13) g0 hS.2.2) gX8_divide_X8_empty rfl (by decide +kernel) rfl (by decide) dX8_divide_17 rfl (Nat.le_of_ble_eq_true rfl) [1] [0, 2, 3] rfl rfl (by decide) (fun w_17 h_17 => ?_)
  obtain rfl := h_17
  refine g_eq (ws' := [(m 0, .inr (8, [.int (zI kc), .ref (m 1), .ref (m 2), .ref (m 3), .ref (m 4), .ref (m 5), .ref (m 6), .int (zI le), .ref (m 7), .ref (m 8), .ref (m 9), .ref (m 10), .ref (m 11), .ref (m 12), .ref (m 13), .ref (m 14), .ref (m 15), .ref (m 16)])), aJ E p a, aJ E q b, aJ E (m 13) zr]) rfl rfl rfl ?_
  refine g_eq (ws' := [(m 0, .inr (8, [.int (zI kc), .ref (m 1), .ref (m 2), .ref (m 3), .ref (m 4), .ref (m 5), .ref (m 6), .int (zI le), .ref (m 7), .ref (m 8), .ref (m 9), .ref (m 10), .ref (m 11), .ref (m 12), .ref (m 13), .ref (m 14), .ref (m 15), .ref (m 16)])), aJ E p a, aJ E q b, aJ E (m 13) (con 0)]) (by rw [zr_con]) rfl rfl ?_
  refine g_aload_n C dX8_divide_20 3 rfl ?_
  refine g_callSCi (n := 1) (wr := [(m 0, .inr (8, [.int (zI kc), .ref (m 1), .ref (m 2), .ref (m 3), .ref (m 4), .ref (m 5), .ref (m 6), .int (zI le), .ref (m 7), .ref (m 8), .ref (m 9), .ref (m 10), .ref (m 11), .ref (m 12), .ref (m 13), .ref (m 14), .ref (m 15), .ref (m 16)])), aJ E q b, aJ E (m 13) (con 0)]) C (c_X8_high E l p a hS.1) gX8_divide_X8_high rfl (by decide +kernel) rfl (by decide) dX8_divide_21 rfl (Nat.le_of_ble_eq_true rfl) [1] [0, 2, 3] rfl rfl (by decide) (fun r_21 w_21 h_21 => ?_)
  obtain ⟨rfl, rfl⟩ := h_21
  refine g_eq (ws' := [(m 0, .inr (8, [.int (zI kc), .ref (m 1), .ref (m 2), .ref (m 3), .ref (m 4), .ref (m 5), .ref (m 6), .int (zI le), .ref (m 7), .ref (m 8), .ref (m 9), .ref (m 10), .ref (m 11), .ref (m 12), .ref (m 13), .ref (m 14), .ref (m 15), .ref (m 16)])), aJ E q b, aJ E (m 13) (con 0), aJ E p a]) rfl rfl rfl ?_
  refine g_istore C [(6, .int (zI (hi a))), (4, .long (zL ((ivq (nm b (hi b))).val : Int))), (3, .int (zI (hi b))), (0, .ref (m 0)), (1, .ref p), (2, .ref q)] dX8_divide_24 (by decide) rfl ?_
  have lp_o : ∀ (n_o : Nat) (x : Int) (n : Nat) (c : Po) (g : Po), (x = hi b + (n : Int) - 1 ∨ (n = 0 ∧ x < hi b)) → (-1 ≤ x ∧ x < 33) → (dv b (ivq (nm b (hi b))) (hi b).toNat n c g = dvs a b) → (Sm c ∧ Sm g) → n < n_o → G 0 0 [(m 0, .inr (8, [.int (zI kc), .ref (m 1), .ref (m 2), .ref (m 3), .ref (m 4), .ref (m 5), .ref (m 6), .int (zI le), .ref (m 7), .ref (m 8), .ref (m 9), .ref (m 10), .ref (m 11), .ref (m 12), .ref (m 13), .ref (m 14), .ref (m 15), .ref (m 16)])), aJ E (m 13) g, aJ E p c, aJ E q b] [(6, .int (zI x)), (4, .long (zL ((ivq (nm b (hi b))).val : Int))), (3, .int (zI (hi b))), (0, .ref (m 0)), (1, .ref p), (2, .ref q)] 26 [] := by
    intro n_o
    induction n_o with
    | zero =>
      intro x n c g hx hx2 hd hSc hm_o
      exact absurd hm_o (by omega)
    | succ n_o ih_o =>
      intro x n c g hx hx2 hd hSc hm_o
      refine g_iload C dX8_divide_26 0 rfl ?_
      refine g_iload_n C dX8_divide_28 2 rfl ?_
      refine g_icmp_lt C 113 dX8_divide_29 (by decide) (by omega) (by omega) (by omega) (by omega) (fun c_29 => ?_) (fun c_29 => ?_)
      · have e1 : dvs a b = (c, g) := by rw [← hd, show n = 0 by omega]; rfl
        obtain rfl : c = rem a b := by unfold rem; rw [e1]
        obtain rfl : g = quo a b := by unfold quo; rw [e1]
        exact hret _ _ _ _ _ dX8_divide_113 (by decide) (by decide) rfl
      · obtain ⟨n2, rfl⟩ : ∃ n2, n = n2 + 1 := ⟨n - 1, by omega⟩
        refine g_aload_n C dX8_divide_32 4 rfl ?_
        refine g_iload C dX8_divide_33 0 rfl ?_
        refine g_lald C 2 ((hi b).toNat + n2) rfl (by omega) (by omega) (by decide) dX8_divide_35 ?_
        refine g_lload C dX8_divide_36 1 rfl ?_
        refine g_jmul C dX8_divide_38 ?_
        refine g_ldc2 C 32003 lk_X8_divide_l32003 dX8_divide_39 ?_
        refine g_lmod C dX8_divide_42 (by have := fq_mulb (c ((hi b).toNat + n2)) (ivq (nm b (hi b))); omega) (by have := fq_mulb (c ((hi b).toNat + n2)) (ivq (nm b (hi b))); omega) ?_
        refine g_ltop (zL ((c ((hi b).toNat + n2) * ivq (nm b (hi b))).val : Int)) (congrArg (fun u : Fq => zL (u.val : Int)) (by simp only [cF_mul, cF_of])) ?_
        refine g_lstore C [(7, .long (zL ((c ((hi b).toNat + n2) * ivq (nm b (hi b))).val : Int))), (6, .int (zI x)), (4, .long (zL ((ivq (nm b (hi b))).val : Int))), (3, .int (zI (hi b))), (0, .ref (m 0)), (1, .ref p), (2, .ref q)] dX8_divide_43 (by decide) rfl ?_
        refine g_aload_n C dX8_divide_45 4 rfl ?_
        refine g_get C 0 rfl rfl 14 (by decide) in_X8_divide_X8 lk_X8_divide_quotient rfl dX8_divide_46 ?_
        refine g_iload C dX8_divide_49 1 rfl ?_
        refine g_iload_n C dX8_divide_51 3 rfl ?_
        refine g_isub C dX8_divide_52 ?_
        refine g_lload C dX8_divide_53 0 rfl ?_
        refine g_last C [(m 0, .inr (8, [.int (zI kc), .ref (m 1), .ref (m 2), .ref (m 3), .ref (m 4), .ref (m 5), .ref (m 6), .int (zI le), .ref (m 7), .ref (m 8), .ref (m 9), .ref (m 10), .ref (m 11), .ref (m 12), .ref (m 13), .ref (m 14), .ref (m 15), .ref (m 16)])), aJ E (m 13) (cset g n2 (c ((hi b).toNat + n2) * ivq (nm b (hi b)))), aJ E p c, aJ E q b] 1 n2 (c ((hi b).toNat + n2) * ivq (nm b (hi b))) rfl (by omega) (by omega) (by decide) (rfl) dX8_divide_55 rfl ?_
        refine g_iconst C dX8_divide_56 ?_
        refine g_istore C [(9, .int (zI 0)), (7, .long (zL ((c ((hi b).toNat + n2) * ivq (nm b (hi b))).val : Int))), (6, .int (zI x)), (4, .long (zL ((ivq (nm b (hi b))).val : Int))), (3, .int (zI (hi b))), (0, .ref (m 0)), (1, .ref p), (2, .ref q)] dX8_divide_57 (by decide) rfl ?_
        have lp_i : ∀ (n_i : Nat) (y : Int) (k : Nat) (c2 : Po), (y = (k : Int)) → (y ≤ hi b + 1) → (∀ j : Nat, c2 j = if n2 ≤ j ∧ j < n2 + k then c j + -(c ((hi b).toNat + n2) * ivq (nm b (hi b))) * b (j - n2) else c j) → (hi b + 1).toNat - k < n_i → G 0 0 [(m 0, .inr (8, [.int (zI kc), .ref (m 1), .ref (m 2), .ref (m 3), .ref (m 4), .ref (m 5), .ref (m 6), .int (zI le), .ref (m 7), .ref (m 8), .ref (m 9), .ref (m 10), .ref (m 11), .ref (m 12), .ref (m 13), .ref (m 14), .ref (m 15), .ref (m 16)])), aJ E (m 13) (cset g n2 (c ((hi b).toNat + n2) * ivq (nm b (hi b)))), aJ E p c2, aJ E q b] [(9, .int (zI y)), (7, .long (zL ((c ((hi b).toNat + n2) * ivq (nm b (hi b))).val : Int))), (6, .int (zI x)), (4, .long (zL ((ivq (nm b (hi b))).val : Int))), (3, .int (zI (hi b))), (0, .ref (m 0)), (1, .ref p), (2, .ref q)] 59 [] := by
          intro n_i
          induction n_i with
          | zero =>
            intro y k c2 hy hk hc2 hm_i
            exact absurd hm_i (by omega)
          | succ n_i ih_i =>
            intro y k c2 hy hk hc2 hm_i
            refine g_iload C dX8_divide_59 0 rfl ?_
            refine g_iload_n C dX8_divide_61 4 rfl ?_
            refine g_icmp_gt C 107 dX8_divide_62 (by decide) (by omega) (by omega) (by omega) (by omega) (fun c_62 => ?_) (fun c_62 => ?_)
            · have hfin : c2 = am c (-(c ((hi b).toNat + n2) * ivq (nm b (hi b)))) b n2 := am_in hc2 (Or.inr (fun j hj => hi_zero hS.2.1 (by omega)))
              refine g_iinc C [(6, .int (zI (x + (-1)))), (9, .int (zI y)), (7, .long (zL ((c ((hi b).toNat + n2) * ivq (nm b (hi b))).val : Int))), (4, .long (zL ((ivq (nm b (hi b))).val : Int))), (3, .int (zI (hi b))), (0, .ref (m 0)), (1, .ref p), (2, .ref q)] dX8_divide_107 2 rfl (by decide) rfl ?_
              refine g_goto C 26 dX8_divide_110 (by decide) ?_
              refine g_lsub C [0, 3, 4, 5, 6, 7] rfl ?_
              exact ih_o (x + -1) n2 c2 (cset g n2 (c ((hi b).toNat + n2) * ivq (nm b (hi b)))) (by omega) (by omega) (by rw [← hd, hfin]; rfl) ⟨by rw [hfin]; exact am_Sm hSc.1 (fun j9 h9 => hi_zero hS.2.1 (by omega)), Sm_set hSc.2 (by omega) _⟩ (by omega)
            · refine g_lload C dX8_divide_65 1 rfl ?_
              refine g_lconst C dX8_divide_67 ?_
              refine g_lcmp_le C 107 dX8_divide_68 dX8_divide_69 (by decide) (by have := (c ((hi b).toNat + n2) * ivq (nm b (hi b))).isLt; omega) (by have := (c ((hi b).toNat + n2) * ivq (nm b (hi b))).isLt; omega) (by have := (c ((hi b).toNat + n2) * ivq (nm b (hi b))).isLt; omega) (by have := (c ((hi b).toNat + n2) * ivq (nm b (hi b))).isLt; omega) (fun c_68 => ?_) (fun c_68 => ?_)
              · have hfin : c2 = am c (-(c ((hi b).toNat + n2) * ivq (nm b (hi b)))) b n2 := am_in hc2 (Or.inl (by rw [fq0 (x := c ((hi b).toNat + n2) * ivq (nm b (hi b))) (by omega)]; decide))
                refine g_iinc C [(6, .int (zI (x + (-1)))), (9, .int (zI y)), (7, .long (zL ((c ((hi b).toNat + n2) * ivq (nm b (hi b))).val : Int))), (4, .long (zL ((ivq (nm b (hi b))).val : Int))), (3, .int (zI (hi b))), (0, .ref (m 0)), (1, .ref p), (2, .ref q)] dX8_divide_107 2 rfl (by decide) rfl ?_
                refine g_goto C 26 dX8_divide_110 (by decide) ?_
                refine g_lsub C [0, 3, 4, 5, 6, 7] rfl ?_
                exact ih_o (x + -1) n2 c2 (cset g n2 (c ((hi b).toNat + n2) * ivq (nm b (hi b)))) (by omega) (by omega) (by rw [← hd, hfin]; rfl) ⟨by rw [hfin]; exact am_Sm hSc.1 (fun j9 h9 => hi_zero hS.2.1 (by omega)), Sm_set hSc.2 (by omega) _⟩ (by omega)
              · refine g_aload_n C dX8_divide_72 6 rfl ?_
                refine g_iload C dX8_divide_73 2 rfl ?_
                refine g_iload_n C dX8_divide_75 4 rfl ?_
                refine g_isub C dX8_divide_76 ?_
                refine g_iload C dX8_divide_77 0 rfl ?_
                refine g_iadd C dX8_divide_79 ?_
                refine g_aload_n C dX8_divide_80 6 rfl ?_
                refine g_iload C dX8_divide_81 2 rfl ?_
                refine g_iload_n C dX8_divide_83 4 rfl ?_
                refine g_isub C dX8_divide_84 ?_
                refine g_iload C dX8_divide_85 0 rfl ?_
                refine g_iadd C dX8_divide_87 ?_
                refine g_lald C 2 (n2 + k) rfl (by omega) (by omega) (by decide) dX8_divide_88 ?_
                refine g_lload C dX8_divide_89 1 rfl ?_
                refine g_aload_n C dX8_divide_91 7 rfl ?_
                refine g_iload C dX8_divide_92 0 rfl ?_
                refine g_lald C 3 k rfl (by omega) (by omega) (by decide) dX8_divide_94 ?_
                refine g_jmul C dX8_divide_95 ?_
                refine g_jsub C dX8_divide_96 ?_
                have h97 := fq_mulb (c ((hi b).toNat + n2) * ivq (nm b (hi b))) (b k)
                have h98 := (c2 (n2 + k)).isLt
                refine g_callSOl (n := 1) C (c_X8_modulo E l _ (by omega) (by omega)) gX8_divide_X8_modulo rfl (by decide +kernel) rfl (by decide) dX8_divide_97 rfl (Nat.le_of_ble_eq_true rfl) (fun r_97 h_97 => ?_)
                obtain ⟨_, rfl, -⟩ := h_97
                refine g_ltop (zL ((c2 (n2 + k) + -(c ((hi b).toNat + n2) * ivq (nm b (hi b))) * b k).val : Int)) (congrArg (fun u : Fq => zL (u.val : Int)) (by simp only [cF_sub, cF_mul, cF_of]; grind)) ?_
                refine g_last C [(m 0, .inr (8, [.int (zI kc), .ref (m 1), .ref (m 2), .ref (m 3), .ref (m 4), .ref (m 5), .ref (m 6), .int (zI le), .ref (m 7), .ref (m 8), .ref (m 9), .ref (m 10), .ref (m 11), .ref (m 12), .ref (m 13), .ref (m 14), .ref (m 15), .ref (m 16)])), aJ E (m 13) (cset g n2 (c ((hi b).toNat + n2) * ivq (nm b (hi b)))), aJ E p (cset c2 (n2 + k) (c2 (n2 + k) + -(c ((hi b).toNat + n2) * ivq (nm b (hi b))) * b k)), aJ E q b] 2 (n2 + k) (c2 (n2 + k) + -(c ((hi b).toNat + n2) * ivq (nm b (hi b))) * b k) rfl (by omega) (by omega) (by decide) (rfl) dX8_divide_100 rfl ?_
                refine g_iinc C [(9, .int (zI (y + 1))), (7, .long (zL ((c ((hi b).toNat + n2) * ivq (nm b (hi b))).val : Int))), (6, .int (zI x)), (4, .long (zL ((ivq (nm b (hi b))).val : Int))), (3, .int (zI (hi b))), (0, .ref (m 0)), (1, .ref p), (2, .ref q)] dX8_divide_101 0 rfl (by decide) rfl ?_
                refine g_goto C 59 dX8_divide_104 (by decide) ?_
                exact ih_i (y + 1) (k + 1) (cset c2 (n2 + k) (c2 (n2 + k) + -(c ((hi b).toNat + n2) * ivq (nm b (hi b))) * b k)) (by omega) (by omega) (am_next hc2 (by rw [am_here hc2])) (by omega)
        exact lp_i 65 0 0 c rfl (by omega) (fun j => by rw [if_neg (by omega)]) (by omega)
  refine g_wsub (ws' := [(m 0, .inr (8, [.int (zI kc), .ref (m 1), .ref (m 2), .ref (m 3), .ref (m 4), .ref (m 5), .ref (m 6), .int (zI le), .ref (m 7), .ref (m 8), .ref (m 9), .ref (m 10), .ref (m 11), .ref (m 12), .ref (m 13), .ref (m 14), .ref (m 15), .ref (m 16)])), aJ E (m 13) (con 0), aJ E p a, aJ E q b]) C [0, 2, 3, 1] (by decide) rfl rfl ?_
  exact lp_o 65 (hi a) (dvN a b) a (con 0) (by unfold dvN; omega) (by omega) rfl ⟨hS.1, Sm_con 0⟩ (by unfold dvN; omega)
