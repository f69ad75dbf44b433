set_option maxHeartbeats 4000000 in
set_option maxRecDepth 100000 in
theorem c_J9_floorMod_7cf53 (E : ev) (l : Launch) (x : Int) (x1 : -2147483648 ≤ x) (x2 : x < 2147483648) : Mi E l yJ9_floorMod_7cf53 wsJ9_floorMod_7cf53 { frames := 0, cells := 0, slots := 0, locals := 0 } [.int (zI x), .int (zI 32003)] [] (fun r w => r = zI ((cF x).val : Int) ∧ w = []) 0 0 := by
  refine enter_iF (cc := cJ9_floorMod_7cf53) (nL := 3) (by decide +kernel) rfl (Nat.le_of_ble_eq_true rfl) (fun G C hret => ?_)
  show G 0 0 [] [(0, .int (zI x)), (1, .int (zI 32003))] 0 []
  have ht : -32003 < x.tmod 32003 ∧ x.tmod 32003 < 32003 := ⟨Int.lt_tmod_of_pos x (by omega), Int.tmod_lt_of_pos x (by omega)⟩
  refine g_iload_n C dJ9_floorMod_7cf53_0 0 rfl ?_
  refine g_iload_n C dJ9_floorMod_7cf53_1 1 rfl ?_
  refine g_iremT C dJ9_floorMod_7cf53_2 (by omega) (by omega) (by omega) (by omega) ?_
  refine g_istore_n C [(2, .int (zI (x.tmod 32003))), (0, .int (zI x)), (1, .int (zI 32003))] dJ9_floorMod_7cf53_3 (by decide) rfl ?_
  refine g_iload_n C dJ9_floorMod_7cf53_4 1 rfl ?_
  refine g_iload_n C dJ9_floorMod_7cf53_5 2 rfl ?_
  refine g_ixor C dJ9_floorMod_7cf53_6 (by omega) (by omega) (by omega) (by omega) (fun x_6 l_6 u_6 e_6 => ?_)
  refine g_if_ge C 18 dJ9_floorMod_7cf53_7 (by decide) (by omega) (by omega) (fun c_7 => ?_) (fun c_7 => ?_)
  · refine g_iload_n C dJ9_floorMod_7cf53_18 0 rfl ?_
    exact hret _ _ _ _ _ _ dJ9_floorMod_7cf53_19 (by decide) (by decide) ⟨by first | (have h9 := tm_pos (show 0 ≤ x by omega); rw [h9]) | (have h9 := tm_neg (show x < 0 by omega); congr 1; omega), rfl⟩
  · refine g_iload_n C dJ9_floorMod_7cf53_10 0 rfl ?_
    refine g_if_eq C 18 dJ9_floorMod_7cf53_11 (by decide) (by omega) (by omega) (fun c_11 => ?_) (fun c_11 => ?_)
    · refine g_iload_n C dJ9_floorMod_7cf53_18 0 rfl ?_
      exact hret _ _ _ _ _ _ dJ9_floorMod_7cf53_19 (by decide) (by decide) ⟨by first | (have h9 := tm_pos (show 0 ≤ x by omega); rw [h9]) | (have h9 := tm_neg (show x < 0 by omega); congr 1; omega), rfl⟩
    · refine g_iload_n C dJ9_floorMod_7cf53_14 0 rfl ?_
      refine g_iload_n C dJ9_floorMod_7cf53_15 2 rfl ?_
      refine g_iadd C dJ9_floorMod_7cf53_16 ?_
      exact hret _ _ _ _ _ _ dJ9_floorMod_7cf53_17 (by decide) (by decide) ⟨by first | (have h9 := tm_pos (show 0 ≤ x by omega); rw [h9]) | (have h9 := tm_neg (show x < 0 by omega); congr 1; omega), rfl⟩
set_option maxHeartbeats 4000000 in
set_option maxRecDepth 100000 in
theorem c_J9_floorMod_f86c9 (E : ev) (l : Launch) (x : Int) (x1 : -9223372036854775808 ≤ x) (x2 : x < 9223372036854775808) : Ml E l yJ9_floorMod_f86c9 wsJ9_floorMod_f86c9 { frames := 0, cells := 0, slots := 0, locals := 0 } [.long (zL x), .long (zL 32003)] [] (fun r w => r = zL ((cF x).val : Int) ∧ w = []) 0 0 := by
  refine enter_lF (cc := cJ9_floorMod_f86c9) (nL := 6) (by decide +kernel) rfl (Nat.le_of_ble_eq_true rfl) (fun G C hret => ?_)
  show G 0 0 [] [(0, .long (zL x)), (2, .long (zL 32003))] 0 []
  have ht : -32003 < x.tmod 32003 ∧ x.tmod 32003 < 32003 := ⟨Int.lt_tmod_of_pos x (by omega), Int.tmod_lt_of_pos x (by omega)⟩
  refine g_lload_n C dJ9_floorMod_f86c9_0 0 rfl ?_
  refine g_lload_n C dJ9_floorMod_f86c9_1 1 rfl ?_
  refine g_lrem C dJ9_floorMod_f86c9_2 (by omega) (by omega) (by omega) (by omega) ?_
  refine g_lstore C [(4, .long (zL (x.tmod 32003))), (0, .long (zL x)), (2, .long (zL 32003))] dJ9_floorMod_f86c9_3 (by decide) rfl ?_
  refine g_lload_n C dJ9_floorMod_f86c9_5 1 rfl ?_
  refine g_lload_n C dJ9_floorMod_f86c9_6 2 rfl ?_
  refine g_lxor C dJ9_floorMod_f86c9_7 (by omega) (by omega) (by omega) (by omega) (fun x_7 l_7 u_7 e_7 => ?_)
  refine g_lconst C dJ9_floorMod_f86c9_8 ?_
  refine g_lcmp_ge C 25 dJ9_floorMod_f86c9_9 dJ9_floorMod_f86c9_10 (by decide) (by omega) (by omega) (by omega) (by omega) (fun c_9 => ?_) (fun c_9 => ?_)
  · refine g_lload C dJ9_floorMod_f86c9_25 0 rfl ?_
    exact hret _ _ _ _ _ _ dJ9_floorMod_f86c9_27 (by decide) (by decide) ⟨by first | (have h9 := tm_pos (show 0 ≤ x by omega); rw [h9]) | (have h9 := tm_neg (show x < 0 by omega); congr 1; omega), rfl⟩
  · refine g_lload C dJ9_floorMod_f86c9_13 0 rfl ?_
    refine g_lconst C dJ9_floorMod_f86c9_15 ?_
    refine g_lcmp_eq C 25 dJ9_floorMod_f86c9_16 dJ9_floorMod_f86c9_17 (by decide) (by omega) (by omega) (by omega) (by omega) (fun c_16 => ?_) (fun c_16 => ?_)
    · refine g_lload C dJ9_floorMod_f86c9_25 0 rfl ?_
      exact hret _ _ _ _ _ _ dJ9_floorMod_f86c9_27 (by decide) (by decide) ⟨by first | (have h9 := tm_pos (show 0 ≤ x by omega); rw [h9]) | (have h9 := tm_neg (show x < 0 by omega); congr 1; omega), rfl⟩
    · refine g_lload C dJ9_floorMod_f86c9_20 0 rfl ?_
      refine g_lload_n C dJ9_floorMod_f86c9_22 2 rfl ?_
      refine g_jadd C dJ9_floorMod_f86c9_23 ?_
      exact hret _ _ _ _ _ _ dJ9_floorMod_f86c9_24 (by decide) (by decide) ⟨by first | (have h9 := tm_pos (show 0 ≤ x by omega); rw [h9]) | (have h9 := tm_neg (show x < 0 by omega); congr 1; omega), rfl⟩
