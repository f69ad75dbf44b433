theorem perm_tl {α : Type} (a b t : List α) : ((a ++ b) ++ t).Perm ((a ++ t) ++ b) := by
  rw [List.append_assoc, List.append_assoc]
  exact List.Perm.append_left a List.perm_append_comm
abbrev xIO : String := "java/lang/IndexOutOfBoundsException"
abbrev xIA : String := "java/lang/IllegalArgumentException"
abbrev xIS : String := "java/lang/IllegalStateException"
theorem in_X7_side_X7 : ∀ w ∈ u_ws RX7 TX7 7, w ∈ wsX7_side := by decide +kernel
theorem lk_X7_side_ratioTop : Cond.fieldLink yX7_side.cls 10 (TX7 0).1 (TX7 0).2.1 (TX7 0).2.2.1 ∈ wsX7_side := by decide +kernel
theorem lk_X7_side_ratioBottom : Cond.fieldLink yX7_side.cls 16 (TX7 1).1 (TX7 1).2.1 (TX7 1).2.2.1 ∈ wsX7_side := by decide +kernel
set_option maxHeartbeats 4000000 in
set_option maxRecDepth 100000 in
theorem c_X7_side (E : ev) (l : Launch) (h hA hB hd hp he hf hg : Nat) (t : Int) (t1 : -2147483648 ≤ t) (t2 : t < 2147483648) : Mr E l yX7_side wsX7_side { frames := 0, cells := 0, slots := 0, locals := 0 } [.ref h, .int (zI t)] [(h, .inr (7, [.ref hA, .ref hB, .ref hd, .ref hp, .ref he, .ref hf, .ref hg]))] (fun r w => r = (if t = 0 then hB else hA) ∧ w = [(h, .inr (7, [.ref hA, .ref hB, .ref hd, .ref hp, .ref he, .ref hf, .ref hg]))]) 0 0 := by
  refine enter_r (cc := cX7_side) (nL := 2) (by decide) rfl (Nat.le_of_ble_eq_true rfl) (fun G C hret => ?_)
  show G 0 0 [(h, .inr (7, [.ref hA, .ref hB, .ref hd, .ref hp, .ref he, .ref hf, .ref hg]))] [(0, .ref h), (1, .int (zI t))] 0 []
  refine g_iload_n C dX7_side_0 1 rfl ?_
  refine g_if_eq C 11 dX7_side_1 (by decide) (by omega) (by omega) (fun c_1 => ?_) (fun c_1 => ?_)
  · refine g_aload_n C dX7_side_11 0 rfl ?_
    refine g_get C 0 rfl rfl 1 (by decide) in_X7_side_X7 lk_X7_side_ratioBottom rfl dX7_side_12 ?_
    exact hret _ _ _ _ _ _ dX7_side_15 (by decide) (by decide) ⟨by first | rw [if_pos c_1] | rw [if_neg c_1], rfl⟩
  · refine g_aload_n C dX7_side_4 0 rfl ?_
    refine g_get C 0 rfl rfl 0 (by decide) in_X7_side_X7 lk_X7_side_ratioTop rfl dX7_side_5 ?_
    refine g_goto C 15 dX7_side_8 (by decide) ?_
    exact hret _ _ _ _ _ _ dX7_side_15 (by decide) (by decide) ⟨by first | rw [if_pos c_1] | rw [if_neg c_1], rfl⟩
theorem th_X7_requirePower : ∀ w ∈ (vx_atS RX7 163 "java/lang/IndexOutOfBoundsException" nmL).filter goodWord, w ∈ wsX7_requirePower := by decide +kernel
set_option maxHeartbeats 4000000 in
set_option maxRecDepth 100000 in
theorem c_X7_requirePower (E : ev) (l : Launch) (hl : l.stackTraces = false) (h hA hB hd hp he hf hg : Nat) (p : Int) (p1 : -2147483648 ≤ p) (p2 : p < 2147483648) : Xv E l yX7_requirePower wsX7_requirePower { frames := 6, cells := 1, slots := 6, locals := 180 } [.ref h, .int (zI p)] [(h, .inr (7, [.ref hA, .ref hB, .ref hd, .ref hp, .ref he, .ref hf, .ref hg]))] (fun w => (0 ≤ p ∧ p ≤ 4) ∧ w = [(h, .inr (7, [.ref hA, .ref hB, .ref hd, .ref hp, .ref he, .ref hf, .ref hg]))]) (fun Ex w => Ex = xIO ∧ ¬ (0 ≤ p ∧ p ≤ 4) ∧ w = [(h, .inr (7, [.ref hA, .ref hB, .ref hd, .ref hp, .ref he, .ref hf, .ref hg]))]) 1 6 := by
  refine enter_xv hl (cc := cX7_requirePower) (nL := 2) (by decide) rfl (Nat.le_of_ble_eq_true rfl) (fun G CX hret => ?_)
  have C := CX.ok
  show G 0 0 [(h, .inr (7, [.ref hA, .ref hB, .ref hd, .ref hp, .ref he, .ref hf, .ref hg]))] [(0, .ref h), (1, .int (zI p))] 0 []
  refine g_iload_n C dX7_requirePower_0 1 rfl ?_
  refine g_if_lt C 9 dX7_requirePower_1 (by decide) (by omega) (by omega) (fun c_1 => ?_) (fun c_1 => ?_)
  · exact g_throw (text := "no such power") CX rfl (by decide +kernel) (by decide +kernel) (by decide +kernel) (by decide +kernel) th_X7_requirePower (by decide +kernel) (by decide +kernel) dX7_requirePower_9 dX7_requirePower_12 dX7_requirePower_13 dX7_requirePower_15 dX7_requirePower_18 (by decide) (Nat.le_of_ble_eq_true rfl) ⟨rfl, by omega, rfl⟩
  · refine g_iload_n C dX7_requirePower_4 1 rfl ?_
    refine g_iconst C dX7_requirePower_5 ?_
    refine g_icmp_le C 19 dX7_requirePower_6 (by decide) (by omega) (by omega) (by omega) (by omega) (fun c_6 => ?_) (fun c_6 => ?_)
    · exact hret _ _ _ _ _ dX7_requirePower_19 (by decide) (by decide) ⟨by omega, rfl⟩
    · exact g_throw (text := "no such power") CX rfl (by decide +kernel) (by decide +kernel) (by decide +kernel) (by decide +kernel) th_X7_requirePower (by decide +kernel) (by decide +kernel) dX7_requirePower_9 dX7_requirePower_12 dX7_requirePower_13 dX7_requirePower_15 dX7_requirePower_18 (by decide) (Nat.le_of_ble_eq_true rfl) ⟨rfl, by omega, rfl⟩
theorem th_X7_requirePlace : ∀ w ∈ (vx_atS RX7 163 "java/lang/IndexOutOfBoundsException" nmL).filter goodWord, w ∈ wsX7_requirePlace := by decide +kernel
set_option maxHeartbeats 4000000 in
set_option maxRecDepth 100000 in
theorem c_X7_requirePlace (E : ev) (l : Launch) (hl : l.stackTraces = false) (h hA hB hd hp he hf hg : Nat) (p : Int) (p1 : -2147483648 ≤ p) (p2 : p < 2147483648) : Xv E l yX7_requirePlace wsX7_requirePlace { frames := 6, cells := 1, slots := 6, locals := 180 } [.ref h, .int (zI p)] [(h, .inr (7, [.ref hA, .ref hB, .ref hd, .ref hp, .ref he, .ref hf, .ref hg]))] (fun w => (0 ≤ p ∧ p ≤ 60) ∧ w = [(h, .inr (7, [.ref hA, .ref hB, .ref hd, .ref hp, .ref he, .ref hf, .ref hg]))]) (fun Ex w => Ex = xIO ∧ ¬ (0 ≤ p ∧ p ≤ 60) ∧ w = [(h, .inr (7, [.ref hA, .ref hB, .ref hd, .ref hp, .ref he, .ref hf, .ref hg]))]) 1 6 := by
  refine enter_xv hl (cc := cX7_requirePlace) (nL := 2) (by decide) rfl (Nat.le_of_ble_eq_true rfl) (fun G CX hret => ?_)
  have C := CX.ok
  show G 0 0 [(h, .inr (7, [.ref hA, .ref hB, .ref hd, .ref hp, .ref he, .ref hf, .ref hg]))] [(0, .ref h), (1, .int (zI p))] 0 []
  refine g_iload_n C dX7_requirePlace_0 1 rfl ?_
  refine g_if_lt C 10 dX7_requirePlace_1 (by decide) (by omega) (by omega) (fun c_1 => ?_) (fun c_1 => ?_)
  · exact g_throw (text := "no such place") CX rfl (by decide +kernel) (by decide +kernel) (by decide +kernel) (by decide +kernel) th_X7_requirePlace (by decide +kernel) (by decide +kernel) dX7_requirePlace_10 dX7_requirePlace_13 dX7_requirePlace_14 dX7_requirePlace_16 dX7_requirePlace_19 (by decide) (Nat.le_of_ble_eq_true rfl) ⟨rfl, by omega, rfl⟩
  · refine g_iload_n C dX7_requirePlace_4 1 rfl ?_
    refine g_bipush C dX7_requirePlace_5 rfl ?_
    refine g_icmp_le C 20 dX7_requirePlace_7 (by decide) (by omega) (by omega) (by omega) (by omega) (fun c_7 => ?_) (fun c_7 => ?_)
    · exact hret _ _ _ _ _ dX7_requirePlace_20 (by decide) (by decide) ⟨by omega, rfl⟩
    · exact g_throw (text := "no such place") CX rfl (by decide +kernel) (by decide +kernel) (by decide +kernel) (by decide +kernel) th_X7_requirePlace (by decide +kernel) (by decide +kernel) dX7_requirePlace_10 dX7_requirePlace_13 dX7_requirePlace_14 dX7_requirePlace_16 dX7_requirePlace_19 (by decide) (Nat.le_of_ble_eq_true rfl) ⟨rfl, by omega, rfl⟩
theorem th_X7_requirePart : ∀ w ∈ (vx_atS RX7 91 "java/lang/IllegalArgumentException" nmL).filter goodWord, w ∈ wsX7_requirePart := by decide +kernel
set_option maxHeartbeats 4000000 in
set_option maxRecDepth 100000 in
theorem c_X7_requirePart (E : ev) (l : Launch) (hl : l.stackTraces = false) (h hA hB hd hp he hf hg : Nat) (p : Int) (p1 : -2147483648 ≤ p) (p2 : p < 2147483648) : Xv E l yX7_requirePart wsX7_requirePart { frames := 6, cells := 1, slots := 6, locals := 180 } [.ref h, .int (zI p)] [(h, .inr (7, [.ref hA, .ref hB, .ref hd, .ref hp, .ref he, .ref hf, .ref hg]))] (fun w => (0 ≤ p ∧ p ≤ 2) ∧ w = [(h, .inr (7, [.ref hA, .ref hB, .ref hd, .ref hp, .ref he, .ref hf, .ref hg]))]) (fun Ex w => Ex = xIA ∧ ¬ (0 ≤ p ∧ p ≤ 2) ∧ w = [(h, .inr (7, [.ref hA, .ref hB, .ref hd, .ref hp, .ref he, .ref hf, .ref hg]))]) 1 6 := by
  refine enter_xv hl (cc := cX7_requirePart) (nL := 2) (by decide) rfl (Nat.le_of_ble_eq_true rfl) (fun G CX hret => ?_)
  have C := CX.ok
  show G 0 0 [(h, .inr (7, [.ref hA, .ref hB, .ref hd, .ref hp, .ref he, .ref hf, .ref hg]))] [(0, .ref h), (1, .int (zI p))] 0 []
  refine g_iload_n C dX7_requirePart_0 1 rfl ?_
  refine g_if_lt C 9 dX7_requirePart_1 (by decide) (by omega) (by omega) (fun c_1 => ?_) (fun c_1 => ?_)
  · exact g_throw (text := "no such part") CX rfl (by decide +kernel) (by decide +kernel) (by decide +kernel) (by decide +kernel) th_X7_requirePart (by decide +kernel) (by decide +kernel) dX7_requirePart_9 dX7_requirePart_12 dX7_requirePart_13 dX7_requirePart_15 dX7_requirePart_18 (by decide) (Nat.le_of_ble_eq_true rfl) ⟨rfl, by omega, rfl⟩
  · refine g_iload_n C dX7_requirePart_4 1 rfl ?_
    refine g_iconst C dX7_requirePart_5 ?_
    refine g_icmp_le C 19 dX7_requirePart_6 (by decide) (by omega) (by omega) (by omega) (by omega) (fun c_6 => ?_) (fun c_6 => ?_)
    · exact hret _ _ _ _ _ dX7_requirePart_19 (by decide) (by decide) ⟨by omega, rfl⟩
    · exact g_throw (text := "no such part") CX rfl (by decide +kernel) (by decide +kernel) (by decide +kernel) (by decide +kernel) th_X7_requirePart (by decide +kernel) (by decide +kernel) dX7_requirePart_9 dX7_requirePart_12 dX7_requirePart_13 dX7_requirePart_15 dX7_requirePart_18 (by decide) (Nat.le_of_ble_eq_true rfl) ⟨rfl, by omega, rfl⟩
theorem th_X7_requireRatio : ∀ w ∈ (vx_atS RX7 176 "java/lang/IllegalStateException" nmL).filter goodWord, w ∈ wsX7_requireRatio := by decide +kernel
theorem in_X7_requireRatio_X7 : ∀ w ∈ u_ws RX7 TX7 7, w ∈ wsX7_requireRatio := by decide +kernel
theorem lk_X7_requireRatio_ratioTop : Cond.fieldLink yX7_requireRatio.cls 10 (TX7 0).1 (TX7 0).2.1 (TX7 0).2.2.1 ∈ wsX7_requireRatio := by decide +kernel
theorem lk_X7_requireRatio_ratioBottom : Cond.fieldLink yX7_requireRatio.cls 16 (TX7 1).1 (TX7 1).2.1 (TX7 1).2.2.1 ∈ wsX7_requireRatio := by decide +kernel
set_option maxHeartbeats 4000000 in
set_option maxRecDepth 100000 in
theorem c_X7_requireRatio (E : ev) (l : Launch) (hl : l.stackTraces = false) (h hA hB hd hp he hf hg : Nat) (qA qB : Nat) (A B : Po) : Xv E l yX7_requireRatio wsX7_requireRatio { frames := 6, cells := 1, slots := 6, locals := 180 } [.ref h] [(h, .inr (7, [.ref hA, .ref hB, .ref hd, .ref hp, .ref he, .ref hf, .ref hg])), cP hA qA (hi A), aP E qA A, cP hB qB (hi B), aP E qB B] (fun w => (0 ≤ hi A ∧ 0 ≤ hi B) ∧ w = [(h, .inr (7, [.ref hA, .ref hB, .ref hd, .ref hp, .ref he, .ref hf, .ref hg])), cP hA qA (hi A), aP E qA A, cP hB qB (hi B), aP E qB B]) (fun Ex w => Ex = xIS ∧ ¬ (0 ≤ hi A ∧ 0 ≤ hi B) ∧ w = [(h, .inr (7, [.ref hA, .ref hB, .ref hd, .ref hp, .ref he, .ref hf, .ref hg])), cP hA qA (hi A), aP E qA A, cP hB qB (hi B), aP E qB B]) 1 6 := by
  refine enter_xv hl (cc := cX7_requireRatio) (nL := 1) (by decide) rfl (Nat.le_of_ble_eq_true rfl) (fun G CX hret => ?_)
  have C := CX.ok
  show G 0 0 [(h, .inr (7, [.ref hA, .ref hB, .ref hd, .ref hp, .ref he, .ref hf, .ref hg])), cP hA qA (hi A), aP E qA A, cP hB qB (hi B), aP E qB B] [(0, .ref h)] 0 []
  refine g_aload_n C dX7_requireRatio_0 0 rfl ?_
  refine g_get C 0 rfl rfl 0 (by decide) in_X7_requireRatio_X7 lk_X7_requireRatio_ratioTop rfl dX7_requireRatio_1 ?_
  refine g_callVi (n := 0) (wr := [(h, .inr (7, [.ref hA, .ref hB, .ref hd, .ref hp, .ref he, .ref hf, .ref hg])), cP hB qB (hi B), aP E qB B]) C (c_X4_isZero E l hA qA A) gX7_requireRatio_X4_isZero rfl (by decide +kernel) rfl (by decide) dX7_requireRatio_4 rfl (Nat.le_of_ble_eq_true rfl) rfl rfl [1, 2] [0, 3, 4] rfl rfl (by decide) (fun r_4 w_4 h_4 => ?_)
  obtain ⟨rfl, rfl⟩ := h_4
  refine g_eq (ws' := [(h, .inr (7, [.ref hA, .ref hB, .ref hd, .ref hp, .ref he, .ref hf, .ref hg])), cP hB qB (hi B), aP E qB B, cP hA qA (hi A), aP E qA A]) rfl rfl rfl ?_
  refine g_if_ne C 20 dX7_requireRatio_7 (by decide) (by (try split) <;> omega) (by (try split) <;> omega) (fun c_7 => ?_) (fun c_7 => ?_)
  · have e_7 : hi A < 0 := by rcases Classical.em (hi A < 0) with g | g; exact g; (rw [if_neg g] at c_7; exact absurd rfl c_7)
    refine g_wsub (ws' := [(h, .inr (7, [.ref hA, .ref hB, .ref hd, .ref hp, .ref he, .ref hf, .ref hg])), cP hA qA (hi A), aP E qA A, cP hB qB (hi B), aP E qB B]) C [0, 3, 4, 1, 2] (by decide) rfl rfl ?_
    exact g_throw (text := "a side of the ratio is 0") CX rfl (by decide +kernel) (by decide +kernel) (by decide +kernel) (by decide +kernel) th_X7_requireRatio (by decide +kernel) (by decide +kernel) dX7_requireRatio_20 dX7_requireRatio_23 dX7_requireRatio_24 dX7_requireRatio_26 dX7_requireRatio_29 (by decide) (Nat.le_of_ble_eq_true rfl) ⟨rfl, by omega, rfl⟩
  · have e_7 : ¬ hi A < 0 := by rcases Classical.em (hi A < 0) with g | g; (rw [if_pos g] at c_7; exact absurd c_7 (by decide)); exact g
    refine g_aload_n C dX7_requireRatio_10 0 rfl ?_
    refine g_get C 0 rfl rfl 1 (by decide) in_X7_requireRatio_X7 lk_X7_requireRatio_ratioBottom rfl dX7_requireRatio_11 ?_
    refine g_callVi (n := 0) (wr := [(h, .inr (7, [.ref hA, .ref hB, .ref hd, .ref hp, .ref he, .ref hf, .ref hg])), cP hA qA (hi A), aP E qA A]) C (c_X4_isZero E l hB qB B) gX7_requireRatio_X4_isZero rfl (by decide +kernel) rfl (by decide) dX7_requireRatio_14 rfl (Nat.le_of_ble_eq_true rfl) rfl rfl [1, 2] [0, 3, 4] rfl rfl (by decide) (fun r_14 w_14 h_14 => ?_)
    obtain ⟨rfl, rfl⟩ := h_14
    refine g_eq (ws' := [(h, .inr (7, [.ref hA, .ref hB, .ref hd, .ref hp, .ref he, .ref hf, .ref hg])), cP hA qA (hi A), aP E qA A, cP hB qB (hi B), aP E qB B]) rfl rfl rfl ?_
    refine g_if_eq C 30 dX7_requireRatio_17 (by decide) (by (try split) <;> omega) (by (try split) <;> omega) (fun c_17 => ?_) (fun c_17 => ?_)
    · have e_17 : ¬ hi B < 0 := by rcases Classical.em (hi B < 0) with g | g; (rw [if_pos g] at c_17; exact absurd c_17 (by decide)); exact g
      exact hret _ _ _ _ _ dX7_requireRatio_30 (by decide) (by decide) ⟨by omega, rfl⟩
    · have e_17 : hi B < 0 := by rcases Classical.em (hi B < 0) with g | g; exact g; (rw [if_neg g] at c_17; exact absurd rfl c_17)
      exact g_throw (text := "a side of the ratio is 0") CX rfl (by decide +kernel) (by decide +kernel) (by decide +kernel) (by decide +kernel) th_X7_requireRatio (by decide +kernel) (by decide +kernel) dX7_requireRatio_20 dX7_requireRatio_23 dX7_requireRatio_24 dX7_requireRatio_26 dX7_requireRatio_29 (by decide) (Nat.le_of_ble_eq_true rfl) ⟨rfl, by omega, rfl⟩
theorem th_X7_requireTerm : ∀ w ∈ (vx_atS RX7 176 "java/lang/IllegalStateException" nmL).filter goodWord, w ∈ wsX7_requireTerm := by decide +kernel
theorem in_X7_requireTerm_X7 : ∀ w ∈ u_ws RX7 TX7 7, w ∈ wsX7_requireTerm := by decide +kernel
theorem lk_X7_requireTerm_progress : Cond.fieldLink yX7_requireTerm.cls 50 (TX7 6).1 (TX7 6).2.1 (TX7 6).2.2.1 ∈ wsX7_requireTerm := by decide +kernel
theorem lk_X7_requireTerm_ratioTop : Cond.fieldLink yX7_requireTerm.cls 10 (TX7 0).1 (TX7 0).2.1 (TX7 0).2.2.1 ∈ wsX7_requireTerm := by decide +kernel
theorem lk_X7_requireTerm_ratioBottom : Cond.fieldLink yX7_requireTerm.cls 16 (TX7 1).1 (TX7 1).2.1 (TX7 1).2.2.1 ∈ wsX7_requireTerm := by decide +kernel
set_option maxHeartbeats 4000000 in
set_option maxRecDepth 100000 in
theorem c_X7_requireTerm (E : ev) (l : Launch) (hl : l.stackTraces = false) (h hA hB hd hp he hf hg : Nat) (qA qB tq : Nat) (r : Nat) (t A B : Po) (n : Int) (hn1 : -1 ≤ n) (hn : n ≤ 60) (hSA : Sm A) (hSB : Sm B) (h0 : PrOk A B r t) : Xv E l yX7_requireTerm wsX7_requireTerm { frames := 6, cells := 1, slots := 6, locals := 180 } [.ref h, .int (zI n)] [(h, .inr (7, [.ref hA, .ref hB, .ref hd, .ref hp, .ref he, .ref hf, .ref hg])), (hg, .inr (5, [.ref tq, .int (zI (r : Int))])), (tq, .inl (E.2.2.1, 61, .inl (pv t))), cP hA qA (hi A), aP E qA A, cP hB qB (hi B), aP E qB B] (fun w => ∃ (r2 : Nat) (t2 : Po), PrOk A B r2 t2 ∧ n ≤ (r2 : Int) ∧ w = [(h, .inr (7, [.ref hA, .ref hB, .ref hd, .ref hp, .ref he, .ref hf, .ref hg])), (hg, .inr (5, [.ref tq, .int (zI (r2 : Int))])), (tq, .inl (E.2.2.1, 61, .inl (pv t2))), cP hA qA (hi A), aP E qA A, cP hB qB (hi B), aP E qB B]) (fun Ex w => Ex = xIS ∧ (∃ j : Nat, (j : Int) < n ∧ val B (cF (j : Int)) = 0) ∧ ∃ (r2 : Nat) (t2 : Po), PrOk A B r2 t2 ∧ w = [(h, .inr (7, [.ref hA, .ref hB, .ref hd, .ref hp, .ref he, .ref hf, .ref hg])), (hg, .inr (5, [.ref tq, .int (zI (r2 : Int))])), (tq, .inl (E.2.2.1, 61, .inl (pv t2))), cP hA qA (hi A), aP E qA A, cP hB qB (hi B), aP E qB B]) 1 6 := by
  refine enter_xv hl (cc := cX7_requireTerm) (nL := 2) (by decide) rfl (Nat.le_of_ble_eq_true rfl) (fun G CX hret => ?_)
  have C := CX.ok
  show G 0 0 [(h, .inr (7, [.ref hA, .ref hB, .ref hd, .ref hp, .ref he, .ref hf, .ref hg])), (hg, .inr (5, [.ref tq, .int (zI (r : Int))])), (tq, .inl (E.2.2.1, 61, .inl (pv t))), cP hA qA (hi A), aP E qA A, cP hB qB (hi B), aP E qB B] [(0, .ref h), (1, .int (zI n))] 0 []
  refine g_aload_n C dX7_requireTerm_0 0 rfl ?_
  refine g_get C 0 rfl rfl 6 (by decide) in_X7_requireTerm_X7 lk_X7_requireTerm_progress rfl dX7_requireTerm_1 ?_
  refine g_iload_n C dX7_requireTerm_4 1 rfl ?_
  refine g_aload_n C dX7_requireTerm_5 0 rfl ?_
  refine g_get C 0 rfl rfl 0 (by decide) in_X7_requireTerm_X7 lk_X7_requireTerm_ratioTop rfl dX7_requireTerm_6 ?_
  refine g_aload_n C dX7_requireTerm_9 0 rfl ?_
  refine g_get C 0 rfl rfl 1 (by decide) in_X7_requireTerm_X7 lk_X7_requireTerm_ratioBottom rfl dX7_requireTerm_10 ?_
  refine g_callVi (n := 3) (wr := [(h, .inr (7, [.ref hA, .ref hB, .ref hd, .ref hp, .ref he, .ref hf, .ref hg]))]) C (c_X5_reaches E l hg tq hA qA hB qB r t A B n hn1 hn hSA hSB h0) gX7_requireTerm_X5_reaches rfl (by decide +kernel) rfl (by decide) dX7_requireTerm_13 rfl (Nat.le_of_ble_eq_true rfl) rfl rfl [1, 2, 3, 4, 5, 6] [0] rfl rfl (by decide) (fun r_13 w_13 h_13 => ?_)
  obtain ⟨r2, t2, hpr, hv, rfl⟩ := h_13
  refine g_eq (ws' := [(h, .inr (7, [.ref hA, .ref hB, .ref hd, .ref hp, .ref he, .ref hf, .ref hg])), (hg, .inr (5, [.ref tq, .int (zI (r2 : Int))])), (tq, .inl (E.2.2.1, 61, .inl (pv t2))), cP hA qA (hi A), aP E qA A, cP hB qB (hi B), aP E qB B]) rfl rfl rfl ?_
  obtain ⟨v9, v1, v2, v3, hv9⟩ : ∃ v9 : Int, -2147483648 ≤ v9 ∧ v9 < 2147483648 ∧ (v9 = 1 ∨ v9 = 0) ∧ r_13 = zI v9 := by rcases hv with ⟨h1, h2⟩ | ⟨h1, h2⟩; exact ⟨1, by omega, by omega, Or.inl rfl, h1⟩; exact ⟨0, by omega, by omega, Or.inr rfl, h1⟩
  subst hv9
  refine g_if_ne C 29 dX7_requireTerm_16 (by decide) (by omega) (by omega) (fun c_16 => ?_) (fun c_16 => ?_)
  · exact hret _ _ _ _ _ dX7_requireTerm_29 (by decide) (by decide) ⟨r2, t2, hpr, by rcases hv with ⟨h1, h2⟩ | ⟨h1, h2⟩; exact h2; exact absurd ((zI_eq v1 v2 (by omega) (by omega)).mp h1) c_16, rfl⟩
  · exact g_throw (text := "the term ends earlier") CX rfl (by decide +kernel) (by decide +kernel) (by decide +kernel) (by decide +kernel) th_X7_requireTerm (by decide +kernel) (by decide +kernel) dX7_requireTerm_19 dX7_requireTerm_22 dX7_requireTerm_23 dX7_requireTerm_25 dX7_requireTerm_28 (by decide) (Nat.le_of_ble_eq_true rfl) ⟨rfl, by rcases hv with ⟨h1, h2⟩ | ⟨h1, h2⟩; exact absurd ((zI_eq v1 v2 (by omega) (by omega)).mp h1) (by omega); exact h2, r2, t2, hpr, rfl⟩
theorem in_X7_forget_X7 : ∀ w ∈ u_ws RX7 TX7 7, w ∈ wsX7_forget := by decide +kernel
theorem lk_X7_forget_parts : Cond.fieldLink yX7_forget.cls 29 (TX7 3).1 (TX7 3).2.1 (TX7 3).2.2.1 ∈ wsX7_forget := by decide +kernel
theorem lk_X7_forget_equation : Cond.fieldLink yX7_forget.cls 36 (TX7 4).1 (TX7 4).2.1 (TX7 4).2.2.1 ∈ wsX7_forget := by decide +kernel
theorem lk_X7_forget_fraction : Cond.fieldLink yX7_forget.cls 43 (TX7 5).1 (TX7 5).2.1 (TX7 5).2.2.1 ∈ wsX7_forget := by decide +kernel
theorem lk_X7_forget_progress : Cond.fieldLink yX7_forget.cls 50 (TX7 6).1 (TX7 6).2.1 (TX7 6).2.2.1 ∈ wsX7_forget := by decide +kernel
set_option maxHeartbeats 4000000 in
set_option maxRecDepth 100000 in
theorem c_X7_forget (E : ev) (l : Launch) (h hA hB hd hp he hf hg : Nat) (t b e m dg ep eb er bb tg pa ft fb tq : Nat) (kp ke kf least r : Int) : Mv E l yX7_forget wsX7_forget { frames := 1, cells := 0, slots := 0, locals := 30 } [.ref h] [(h, .inr (7, [.ref hA, .ref hB, .ref hd, .ref hp, .ref he, .ref hf, .ref hg])), (hp, .inr (6, [.ref t, .ref b, .ref e, .ref m, .ref dg, .int (zI kp)])), (he, .inr (1, [.ref ep, .ref eb, .ref er, .ref bb, .ref tg, .ref pa, .int (zI least), .int (zI ke)])), (hf, .inr (2, [.ref ft, .ref fb, .int (zI kf)])), (hg, .inr (5, [.ref tq, .int (zI r)]))] (fun w => w = [(h, .inr (7, [.ref hA, .ref hB, .ref hd, .ref hp, .ref he, .ref hf, .ref hg])), (hp, .inr (6, [.ref t, .ref b, .ref e, .ref m, .ref dg, .int (zI 0)])), (he, .inr (1, [.ref ep, .ref eb, .ref er, .ref bb, .ref tg, .ref pa, .int (zI least), .int (zI 0)])), (hf, .inr (2, [.ref ft, .ref fb, .int (zI 0)])), (hg, .inr (5, [.ref tq, .int (zI 0)]))]) 0 0 := by
  refine enter_v (cc := cX7_forget) (nL := 1) (by decide) rfl (Nat.le_of_ble_eq_true rfl) (fun G C hret => ?_)
  show G 0 0 [(h, .inr (7, [.ref hA, .ref hB, .ref hd, .ref hp, .ref he, .ref hf, .ref hg])), (hp, .inr (6, [.ref t, .ref b, .ref e, .ref m, .ref dg, .int (zI kp)])), (he, .inr (1, [.ref ep, .ref eb, .ref er, .ref bb, .ref tg, .ref pa, .int (zI least), .int (zI ke)])), (hf, .inr (2, [.ref ft, .ref fb, .int (zI kf)])), (hg, .inr (5, [.ref tq, .int (zI r)]))] [(0, .ref h)] 0 []
  refine g_aload_n C dX7_forget_0 0 rfl ?_
  refine g_get C 0 rfl rfl 3 (by decide) in_X7_forget_X7 lk_X7_forget_parts rfl dX7_forget_1 ?_
  refine g_callV (n := 0) (wr := [(h, .inr (7, [.ref hA, .ref hB, .ref hd, .ref hp, .ref he, .ref hf, .ref hg])), (he, .inr (1, [.ref ep, .ref eb, .ref er, .ref bb, .ref tg, .ref pa, .int (zI least), .int (zI ke)])), (hf, .inr (2, [.ref ft, .ref fb, .int (zI kf)])), (hg, .inr (5, [.ref tq, .int (zI r)]))]) C (c_X6_forget E l hp t b e m dg kp) gX7_forget_X6_forget rfl (by decide +kernel) rfl (by decide) dX7_forget_4 rfl (Nat.le_of_ble_eq_true rfl) rfl rfl [1] [0, 2, 3, 4] rfl rfl (by decide) (fun w_4 h_4 => ?_)
  obtain rfl := h_4
  refine g_eq (ws' := [(h, .inr (7, [.ref hA, .ref hB, .ref hd, .ref hp, .ref he, .ref hf, .ref hg])), (he, .inr (1, [.ref ep, .ref eb, .ref er, .ref bb, .ref tg, .ref pa, .int (zI least), .int (zI ke)])), (hf, .inr (2, [.ref ft, .ref fb, .int (zI kf)])), (hg, .inr (5, [.ref tq, .int (zI r)])), (hp, .inr (6, [.ref t, .ref b, .ref e, .ref m, .ref dg, .int (zI 0)]))]) rfl rfl rfl ?_
  refine g_aload_n C dX7_forget_7 0 rfl ?_
  refine g_get C 0 rfl rfl 4 (by decide) in_X7_forget_X7 lk_X7_forget_equation rfl dX7_forget_8 ?_
  refine g_callV (n := 0) (wr := [(h, .inr (7, [.ref hA, .ref hB, .ref hd, .ref hp, .ref he, .ref hf, .ref hg])), (hf, .inr (2, [.ref ft, .ref fb, .int (zI kf)])), (hg, .inr (5, [.ref tq, .int (zI r)])), (hp, .inr (6, [.ref t, .ref b, .ref e, .ref m, .ref dg, .int (zI 0)]))]) C (c_X1_forget E l he ep eb er bb tg pa least ke) gX7_forget_X1_forget rfl (by decide +kernel) rfl (by decide) dX7_forget_11 rfl (Nat.le_of_ble_eq_true rfl) rfl rfl [1] [0, 2, 3, 4] rfl rfl (by decide) (fun w_11 h_11 => ?_)
  obtain rfl := h_11
  refine g_eq (ws' := [(h, .inr (7, [.ref hA, .ref hB, .ref hd, .ref hp, .ref he, .ref hf, .ref hg])), (hf, .inr (2, [.ref ft, .ref fb, .int (zI kf)])), (hg, .inr (5, [.ref tq, .int (zI r)])), (hp, .inr (6, [.ref t, .ref b, .ref e, .ref m, .ref dg, .int (zI 0)])), (he, .inr (1, [.ref ep, .ref eb, .ref er, .ref bb, .ref tg, .ref pa, .int (zI least), .int (zI 0)]))]) rfl rfl rfl ?_
  refine g_aload_n C dX7_forget_14 0 rfl ?_
  refine g_get C 0 rfl rfl 5 (by decide) in_X7_forget_X7 lk_X7_forget_fraction rfl dX7_forget_15 ?_
  refine g_callV (n := 0) (wr := [(h, .inr (7, [.ref hA, .ref hB, .ref hd, .ref hp, .ref he, .ref hf, .ref hg])), (hg, .inr (5, [.ref tq, .int (zI r)])), (hp, .inr (6, [.ref t, .ref b, .ref e, .ref m, .ref dg, .int (zI 0)])), (he, .inr (1, [.ref ep, .ref eb, .ref er, .ref bb, .ref tg, .ref pa, .int (zI least), .int (zI 0)]))]) C (c_X2_forget E l hf ft fb kf) gX7_forget_X2_forget rfl (by decide +kernel) rfl (by decide) dX7_forget_18 rfl (Nat.le_of_ble_eq_true rfl) rfl rfl [1] [0, 2, 3, 4] rfl rfl (by decide) (fun w_18 h_18 => ?_)
  obtain rfl := h_18
  refine g_eq (ws' := [(h, .inr (7, [.ref hA, .ref hB, .ref hd, .ref hp, .ref he, .ref hf, .ref hg])), (hg, .inr (5, [.ref tq, .int (zI r)])), (hp, .inr (6, [.ref t, .ref b, .ref e, .ref m, .ref dg, .int (zI 0)])), (he, .inr (1, [.ref ep, .ref eb, .ref er, .ref bb, .ref tg, .ref pa, .int (zI least), .int (zI 0)])), (hf, .inr (2, [.ref ft, .ref fb, .int (zI 0)]))]) rfl rfl rfl ?_
  refine g_aload_n C dX7_forget_21 0 rfl ?_
  refine g_get C 0 rfl rfl 6 (by decide) in_X7_forget_X7 lk_X7_forget_progress rfl dX7_forget_22 ?_
  refine g_callV (n := 0) (wr := [(h, .inr (7, [.ref hA, .ref hB, .ref hd, .ref hp, .ref he, .ref hf, .ref hg])), (hp, .inr (6, [.ref t, .ref b, .ref e, .ref m, .ref dg, .int (zI 0)])), (he, .inr (1, [.ref ep, .ref eb, .ref er, .ref bb, .ref tg, .ref pa, .int (zI least), .int (zI 0)])), (hf, .inr (2, [.ref ft, .ref fb, .int (zI 0)]))]) C (c_X5_forget E l hg tq r) gX7_forget_X5_forget rfl (by decide +kernel) rfl (by decide) dX7_forget_25 rfl (Nat.le_of_ble_eq_true rfl) rfl rfl [1] [0, 2, 3, 4] rfl rfl (by decide) (fun w_25 h_25 => ?_)
  obtain rfl := h_25
  refine g_eq (ws' := [(h, .inr (7, [.ref hA, .ref hB, .ref hd, .ref hp, .ref he, .ref hf, .ref hg])), (hp, .inr (6, [.ref t, .ref b, .ref e, .ref m, .ref dg, .int (zI 0)])), (he, .inr (1, [.ref ep, .ref eb, .ref er, .ref bb, .ref tg, .ref pa, .int (zI least), .int (zI 0)])), (hf, .inr (2, [.ref ft, .ref fb, .int (zI 0)])), (hg, .inr (5, [.ref tq, .int (zI 0)]))]) rfl rfl rfl ?_
  exact hret _ _ _ _ _ dX7_forget_28 (by decide) (by decide) rfl
