set_option maxHeartbeats 4000000 in
set_option maxRecDepth 100000 in
theorem c_X7_negative (E : ev) (l : Launch) (x : Fq) : Mi E l yX7_negative wsX7_negative { frames := 0, cells := 0, slots := 0, locals := 0 } [.int (zI (x.val : Int))] [] (fun r w => r = zI (((-x : Fq)).val : Int) ∧ w = []) 0 0 := by
  refine enter_i (cc := cX7_negative) (nL := 1) (by decide) rfl (Nat.le_of_ble_eq_true rfl) (fun G C hret => ?_)
  show G 0 0 [] [(0, .int (zI (x.val : Int)))] 0 []
  refine g_iload_n C dX7_negative_0 0 rfl ?_
  refine g_if_ne C 8 dX7_negative_1 (by decide) (by omega) (by omega) (fun c_1 => ?_) (fun c_1 => ?_)
  · refine g_sipush C dX7_negative_8 rfl ?_
    refine g_iload_n C dX7_negative_11 0 rfl ?_
    refine g_isub C dX7_negative_12 ?_
    exact hret _ _ _ _ _ _ dX7_negative_13 (by decide) (by decide) ⟨by first | (rw [fq0 c_1, fq_neg0]; rfl) | rw [fq_neg (fqn c_1)], rfl⟩
  · refine g_iconst C dX7_negative_4 ?_
    refine g_goto C 13 dX7_negative_5 (by decide) ?_
    exact hret _ _ _ _ _ _ dX7_negative_13 (by decide) (by decide) ⟨by first | (rw [fq0 c_1, fq_neg0]; rfl) | rw [fq_neg (fqn c_1)], rfl⟩
set_option maxHeartbeats 4000000 in
set_option maxRecDepth 100000 in
theorem c_X7_inverse (E : ev) (l : Launch) (x : Fq) : Mi E l yX7_inverse wsX7_inverse { frames := 0, cells := 0, slots := 0, locals := 0 } [.int (zI (x.val : Int))] [] (fun r w => r = zI ((ivq x).val : Int) ∧ w = []) 0 0 := by
  refine enter_i (cc := cX7_inverse) (nL := 4) (by decide) rfl (Nat.le_of_ble_eq_true rfl) (fun G C hret => ?_)
  show G 0 0 [] [(0, .int (zI (x.val : Int)))] 0 []
  refine g_iconst C dX7_inverse_0 ?_
  refine g_istore_n C [(1, .int (zI 1)), (0, .int (zI (x.val : Int)))] dX7_inverse_1 (by decide) rfl ?_
  refine g_iload_n C dX7_inverse_2 1 rfl ?_
  refine g_istore_n C [(2, .int (zI (x.val : Int))), (1, .int (zI 1)), (0, .int (zI (x.val : Int)))] dX7_inverse_3 (by decide) rfl ?_
  refine g_sipush C dX7_inverse_4 rfl ?_
  refine g_istore_n C [(3, .int (zI 32001)), (2, .int (zI (x.val : Int))), (1, .int (zI 1)), (0, .int (zI (x.val : Int)))] dX7_inverse_7 (by decide) rfl ?_
  have lp_e : ∀ (n_e : Nat) (z : Int) (n : Nat) (f : Nat) (r : Fq) (s : Fq), (z = (n : Int)) → (n < 2 ^ f) → (n < 2147483648) → (ivs f n r s = ivq x) → n < n_e → G 0 0 [] [(3, .int (zI z)), (2, .int (zI (s.val : Int))), (1, .int (zI (r.val : Int))), (0, .int (zI (x.val : Int)))] 8 [] := by
    intro n_e
    induction n_e with
    | zero =>
      intro z n f r s hz hn hn2 hr hm_e
      exact absurd hm_e (by omega)
    | succ n_e ih_e =>
      intro z n f r s hz hn hn2 hr hm_e
      refine g_iload_n C dX7_inverse_8 0 rfl ?_
      refine g_if_le C 42 dX7_inverse_9 (by decide) (by omega) (by omega) (fun c_9 => ?_) (fun c_9 => ?_)
      · have e : r = ivq x := by rw [← hr, show n = 0 by omega]; cases f <;> rfl
        refine g_iload_n C dX7_inverse_42 2 rfl ?_
        exact hret _ _ _ _ _ _ dX7_inverse_43 (by decide) (by decide) ⟨by rw [e], rfl⟩
      · obtain ⟨f2, rfl⟩ : ∃ f2, f = f2 + 1 := ⟨f - 1, by rcases f with _ | f; simp at hn; omega; omega⟩
        rw [Nat.pow_succ] at hn
        refine g_iload_n C dX7_inverse_12 0 rfl ?_
        refine g_iconst C dX7_inverse_13 ?_
        refine g_iand1 C n dX7_inverse_14 (by omega) (by omega) ?_
        refine g_iconst C dX7_inverse_15 ?_
        refine g_icmp_ne C 27 dX7_inverse_16 (by decide) (by omega) (by omega) (by omega) (by omega) (fun c_16 => ?_) (fun c_16 => ?_)
        · refine g_iload_n C dX7_inverse_27 1 rfl ?_
          refine g_iload_n C dX7_inverse_28 1 rfl ?_
          refine g_imul C dX7_inverse_29 ?_
          refine g_sipush C dX7_inverse_30 rfl ?_
          refine g_mod C dX7_inverse_33 (by have := fq_mulb s s; omega) (by have := fq_mulb s s; omega) ?_
          refine g_top (zI ((s * s).val : Int)) (congrArg (fun u : Fq => zI (u.val : Int)) (by simp only [cF_mul, cF_of])) ?_
          refine g_istore_n C [(2, .int (zI ((s * s).val : Int))), (3, .int (zI z)), (1, .int (zI (r.val : Int))), (0, .int (zI (x.val : Int)))] dX7_inverse_34 (by decide) rfl ?_
          refine g_iload_n C dX7_inverse_35 1 rfl ?_
          refine g_iconst C dX7_inverse_36 ?_
          refine g_ishr1 C n dX7_inverse_37 (by omega) (by omega) ?_
          refine g_istore_n C [(3, .int (zI ((n / 2 : Nat) : Int))), (2, .int (zI ((s * s).val : Int))), (1, .int (zI (r.val : Int))), (0, .int (zI (x.val : Int)))] dX7_inverse_38 (by decide) rfl ?_
          refine g_goto C 8 dX7_inverse_39 (by decide) ?_
          exact ih_e (((n / 2 : Nat) : Int)) (n / 2) f2 r (s * s) rfl (by omega) (by omega) (by rw [← hr, ivs_0 (by omega) (by omega)]) (by omega)
        · refine g_iload_n C dX7_inverse_19 2 rfl ?_
          refine g_iload_n C dX7_inverse_20 1 rfl ?_
          refine g_imul C dX7_inverse_21 ?_
          refine g_sipush C dX7_inverse_22 rfl ?_
          refine g_mod C dX7_inverse_25 (by have := fq_mulb r s; omega) (by have := fq_mulb r s; omega) ?_
          refine g_top (zI ((r * s).val : Int)) (congrArg (fun u : Fq => zI (u.val : Int)) (by simp only [cF_mul, cF_of])) ?_
          refine g_istore_n C [(1, .int (zI ((r * s).val : Int))), (3, .int (zI z)), (2, .int (zI (s.val : Int))), (0, .int (zI (x.val : Int)))] dX7_inverse_26 (by decide) rfl ?_
          refine g_iload_n C dX7_inverse_27 2 rfl ?_
          refine g_iload_n C dX7_inverse_28 2 rfl ?_
          refine g_imul C dX7_inverse_29 ?_
          refine g_sipush C dX7_inverse_30 rfl ?_
          refine g_mod C dX7_inverse_33 (by have := fq_mulb s s; omega) (by have := fq_mulb s s; omega) ?_
          refine g_top (zI ((s * s).val : Int)) (congrArg (fun u : Fq => zI (u.val : Int)) (by simp only [cF_mul, cF_of])) ?_
          refine g_istore_n C [(2, .int (zI ((s * s).val : Int))), (1, .int (zI ((r * s).val : Int))), (3, .int (zI z)), (0, .int (zI (x.val : Int)))] dX7_inverse_34 (by decide) rfl ?_
          refine g_iload_n C dX7_inverse_35 2 rfl ?_
          refine g_iconst C dX7_inverse_36 ?_
          refine g_ishr1 C n dX7_inverse_37 (by omega) (by omega) ?_
          refine g_istore_n C [(3, .int (zI ((n / 2 : Nat) : Int))), (2, .int (zI ((s * s).val : Int))), (1, .int (zI ((r * s).val : Int))), (0, .int (zI (x.val : Int)))] dX7_inverse_38 (by decide) rfl ?_
          refine g_goto C 8 dX7_inverse_39 (by decide) ?_
          exact ih_e (((n / 2 : Nat) : Int)) (n / 2) f2 (r * s) (s * s) rfl (by omega) (by omega) (by rw [← hr, ivs_1 (by omega) (by omega)]) (by omega)
  exact lp_e 32002 32001 32001 16 1 x rfl (by decide) (by omega) rfl (by omega)
