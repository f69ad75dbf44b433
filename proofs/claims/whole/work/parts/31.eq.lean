/-- the power n^k -/
def mono (k : Nat) : Po := cset (con 0) k 1
theorem mono_Sm {k : Nat} (h : k < 33) : Sm (mono k) := Sm_set (Sm_con 0) h 1
theorem in_X1_fill_X3 : ∀ w ∈ u_ws RX3 TX3 2, w ∈ wsX1_fill := by decide +kernel
theorem in_X1_fill_X1 : ∀ w ∈ u_ws RX1 TX1 8, w ∈ wsX1_fill := by decide +kernel
theorem lk_X1_fill_origin : Cond.fieldLink yX1_fill.cls 50 (TX3 0).1 (TX3 0).2.1 (TX3 0).2.2.1 ∈ wsX1_fill := by decide +kernel
theorem lk_X1_fill_image : Cond.fieldLink yX1_fill.cls 65 (TX3 1).1 (TX3 1).2.1 (TX3 1).2.2.1 ∈ wsX1_fill := by decide +kernel
theorem lk_X1_fill_topGrown : Cond.fieldLink yX1_fill.cls 32 (TX1 4).1 (TX1 4).2.1 (TX1 4).2.2.1 ∈ wsX1_fill := by decide +kernel
theorem lk_X1_fill_bottomBefore : Cond.fieldLink yX1_fill.cls 28 (TX1 3).1 (TX1 3).2.1 (TX1 3).2.2.1 ∈ wsX1_fill := by decide +kernel
theorem lk_X1_fill_placeAfter : Cond.fieldLink yX1_fill.cls 35 (TX1 5).1 (TX1 5).2.1 (TX1 5).2.2.1 ∈ wsX1_fill := by decide +kernel
set_option maxHeartbeats 4000000 in
set_option maxRecDepth 100000 in
theorem c_X1_fill (E : ev) (l : Launch) (he ep eb er bb tg pa : Nat) (least ke : Int) (pp po qpo pi qpi qbb qtg qpa : Nat) (x y b t a : Po) (k : Nat) (hS : Sm x ∧ Sm y ∧ Sm b ∧ Sm t ∧ Sm a) (hk : k < 33) (hb : hi b + (k : Int) < 33) (ht : 0 ≤ hi t) (ha : 0 ≤ hi a) (hta : hi t + hi a < 33) : Mv E l yX1_fill wsX1_fill { frames := 2, cells := 0, slots := 0, locals := 60 } [.ref he, .ref pp, .int (zI (k : Int))] [(he, .inr (1, [.ref ep, .ref eb, .ref er, .ref bb, .ref tg, .ref pa, .int (zI least), .int (zI ke)])), (pp, .inr (3, [.ref po, .ref pi])), cP po qpo (hi x), aP E qpo x, cP pi qpi (hi y), aP E qpi y, cP bb qbb (hi b), aP E qbb b, cP tg qtg (hi t), aP E qtg t, cP pa qpa (hi a), aP E qpa a] (fun w => w = [(he, .inr (1, [.ref ep, .ref eb, .ref er, .ref bb, .ref tg, .ref pa, .int (zI least), .int (zI ke)])), (pp, .inr (3, [.ref po, .ref pi])), cP po qpo (hi (mono k)), aP E qpo (mono k), cP pi qpi (hi (am t 32002 b k)), aP E qpi (am t 32002 b k), cP bb qbb (hi b), aP E qbb b, cP tg qtg (hi (conv t a)), aP E qtg (conv t a), cP pa qpa (hi a), aP E qpa a]) 0 0 := by
  refine enter_v (cc := cX1_fill) (nL := 3) (by decide) rfl (Nat.le_of_ble_eq_true rfl) (fun G C hret => ?_)
  show G 0 0 [(he, .inr (1, [.ref ep, .ref eb, .ref er, .ref bb, .ref tg, .ref pa, .int (zI least), .int (zI ke)])), (pp, .inr (3, [.ref po, .ref pi])), cP po qpo (hi x), aP E qpo x, cP pi qpi (hi y), aP E qpi y, cP bb qbb (hi b), aP E qbb b, cP tg qtg (hi t), aP E qtg t, cP pa qpa (hi a), aP E qpa a] [(0, .ref he), (1, .ref pp), (2, .int (zI (k : Int)))] 0 []
  refine g_aload_n C dX1_fill_0 1 rfl ?_
  refine g_get C 1 rfl rfl 0 (by decide) in_X1_fill_X3 lk_X1_fill_origin rfl dX1_fill_1 ?_
  refine g_iconst C dX1_fill_4 ?_
  refine g_callV (n := 1) (wr := [(he, .inr (1, [.ref ep, .ref eb, .ref er, .ref bb, .ref tg, .ref pa, .int (zI least), .int (zI ke)])), (pp, .inr (3, [.ref po, .ref pi])), cP pi qpi (hi y), aP E qpi y, cP bb qbb (hi b), aP E qbb b, cP tg qtg (hi t), aP E qtg t, cP pa qpa (hi a), aP E qpa a]) C (c_X4_becomeNumber E l po qpo x 0 hS.1) gX1_fill_X4_becomeNumber rfl (by decide +kernel) rfl (by decide) dX1_fill_5 rfl (Nat.le_of_ble_eq_true rfl) rfl rfl [2, 3] [0, 1, 4, 5, 6, 7, 8, 9, 10, 11] rfl rfl (by decide) (fun w_5 h_5 => ?_)
  obtain rfl := h_5
  refine g_eq (ws' := [(he, .inr (1, [.ref ep, .ref eb, .ref er, .ref bb, .ref tg, .ref pa, .int (zI least), .int (zI ke)])), (pp, .inr (3, [.ref po, .ref pi])), cP pi qpi (hi y), aP E qpi y, cP bb qbb (hi b), aP E qbb b, cP tg qtg (hi t), aP E qtg t, cP pa qpa (hi a), aP E qpa a, cP po qpo (hi (con 0)), aP E qpo (con 0)]) rfl rfl rfl ?_
  refine g_aload_n C dX1_fill_8 1 rfl ?_
  refine g_get C 1 rfl rfl 0 (by decide) in_X1_fill_X3 lk_X1_fill_origin rfl dX1_fill_9 ?_
  refine g_iload_n C dX1_fill_12 2 rfl ?_
  refine g_iconst C dX1_fill_13 ?_
  refine g_callV (n := 2) (wr := [(he, .inr (1, [.ref ep, .ref eb, .ref er, .ref bb, .ref tg, .ref pa, .int (zI least), .int (zI ke)])), (pp, .inr (3, [.ref po, .ref pi])), cP pi qpi (hi y), aP E qpi y, cP bb qbb (hi b), aP E qbb b, cP tg qtg (hi t), aP E qtg t, cP pa qpa (hi a), aP E qpa a]) C (c_X4_setNumber E l po qpo (con 0) k 1 (Sm_con 0) hk) gX1_fill_X4_setNumber rfl (by decide +kernel) rfl (by decide) dX1_fill_14 rfl (Nat.le_of_ble_eq_true rfl) rfl rfl [10, 11] [0, 1, 2, 3, 4, 5, 6, 7, 8, 9] rfl rfl (by decide) (fun w_14 h_14 => ?_)
  obtain rfl := h_14
  refine g_eq (ws' := [(he, .inr (1, [.ref ep, .ref eb, .ref er, .ref bb, .ref tg, .ref pa, .int (zI least), .int (zI ke)])), (pp, .inr (3, [.ref po, .ref pi])), cP pi qpi (hi y), aP E qpi y, cP bb qbb (hi b), aP E qbb b, cP tg qtg (hi t), aP E qtg t, cP pa qpa (hi a), aP E qpa a, cP po qpo (hi (mono k)), aP E qpo (mono k)]) rfl rfl rfl ?_
  refine g_aload_n C dX1_fill_17 1 rfl ?_
  refine g_get C 1 rfl rfl 1 (by decide) in_X1_fill_X3 lk_X1_fill_image rfl dX1_fill_18 ?_
  refine g_aload_n C dX1_fill_21 0 rfl ?_
  refine g_get C 0 rfl rfl 4 (by decide) in_X1_fill_X1 lk_X1_fill_topGrown rfl dX1_fill_22 ?_
  refine g_callV (n := 1) (wr := [(he, .inr (1, [.ref ep, .ref eb, .ref er, .ref bb, .ref tg, .ref pa, .int (zI least), .int (zI ke)])), (pp, .inr (3, [.ref po, .ref pi])), cP bb qbb (hi b), aP E qbb b, cP pa qpa (hi a), aP E qpa a, cP po qpo (hi (mono k)), aP E qpo (mono k)]) C (c_X4_copyFrom E l pi qpi tg qtg y t hS.2.1 hS.2.2.2.1) gX1_fill_X4_copyFrom rfl (by decide +kernel) rfl (by decide) dX1_fill_25 rfl (Nat.le_of_ble_eq_true rfl) rfl rfl [2, 3, 6, 7] [0, 1, 4, 5, 8, 9, 10, 11] rfl rfl (by decide) (fun w_25 h_25 => ?_)
  obtain rfl := h_25
  refine g_eq (ws' := [(he, .inr (1, [.ref ep, .ref eb, .ref er, .ref bb, .ref tg, .ref pa, .int (zI least), .int (zI ke)])), (pp, .inr (3, [.ref po, .ref pi])), cP bb qbb (hi b), aP E qbb b, cP pa qpa (hi a), aP E qpa a, cP po qpo (hi (mono k)), aP E qpo (mono k), cP pi qpi (hi t), aP E qpi t, cP tg qtg (hi t), aP E qtg t]) rfl rfl rfl ?_
  refine g_aload_n C dX1_fill_28 1 rfl ?_
  refine g_get C 1 rfl rfl 1 (by decide) in_X1_fill_X3 lk_X1_fill_image rfl dX1_fill_29 ?_
  refine g_sipush C dX1_fill_32 rfl ?_
  refine g_aload_n C dX1_fill_35 0 rfl ?_
  refine g_get C 0 rfl rfl 3 (by decide) in_X1_fill_X1 lk_X1_fill_bottomBefore rfl dX1_fill_36 ?_
  refine g_iload_n C dX1_fill_39 2 rfl ?_
  refine g_callV (n := 3) (wr := [(he, .inr (1, [.ref ep, .ref eb, .ref er, .ref bb, .ref tg, .ref pa, .int (zI least), .int (zI ke)])), (pp, .inr (3, [.ref po, .ref pi])), cP pa qpa (hi a), aP E qpa a, cP po qpo (hi (mono k)), aP E qpo (mono k), cP tg qtg (hi t), aP E qtg t]) C (c_X4_addMultiple E l pi qpi bb qbb t b 32002 k hS.2.2.2.1 hS.2.2.1 hb) gX1_fill_X4_addMultiple rfl (by decide +kernel) rfl (by decide) dX1_fill_40 rfl (Nat.le_of_ble_eq_true rfl) rfl rfl [8, 9, 2, 3] [0, 1, 4, 5, 6, 7, 10, 11] rfl rfl (by decide) (fun w_40 h_40 => ?_)
  obtain rfl := h_40
  refine g_eq (ws' := [(he, .inr (1, [.ref ep, .ref eb, .ref er, .ref bb, .ref tg, .ref pa, .int (zI least), .int (zI ke)])), (pp, .inr (3, [.ref po, .ref pi])), cP pa qpa (hi a), aP E qpa a, cP po qpo (hi (mono k)), aP E qpo (mono k), cP tg qtg (hi t), aP E qtg t, cP pi qpi (hi (am t 32002 b k)), aP E qpi (am t 32002 b k), cP bb qbb (hi b), aP E qbb b]) rfl rfl rfl ?_
  refine g_aload_n C dX1_fill_43 0 rfl ?_
  refine g_get C 0 rfl rfl 4 (by decide) in_X1_fill_X1 lk_X1_fill_topGrown rfl dX1_fill_44 ?_
  refine g_aload_n C dX1_fill_47 0 rfl ?_
  refine g_get C 0 rfl rfl 5 (by decide) in_X1_fill_X1 lk_X1_fill_placeAfter rfl dX1_fill_48 ?_
  refine g_callV (n := 1) (wr := [(he, .inr (1, [.ref ep, .ref eb, .ref er, .ref bb, .ref tg, .ref pa, .int (zI least), .int (zI ke)])), (pp, .inr (3, [.ref po, .ref pi])), cP po qpo (hi (mono k)), aP E qpo (mono k), cP pi qpi (hi (am t 32002 b k)), aP E qpi (am t 32002 b k), cP bb qbb (hi b), aP E qbb b]) C (c_X4_multiplyBy E l tg qtg pa qpa t a hS.2.2.2.1 hS.2.2.2.2 ht ha hta) gX1_fill_X4_multiplyBy rfl (by decide +kernel) rfl (by decide) dX1_fill_51 rfl (Nat.le_of_ble_eq_true rfl) rfl rfl [6, 7, 2, 3] [0, 1, 4, 5, 8, 9, 10, 11] rfl rfl (by decide) (fun w_51 h_51 => ?_)
  obtain rfl := h_51
  refine g_eq (ws' := [(he, .inr (1, [.ref ep, .ref eb, .ref er, .ref bb, .ref tg, .ref pa, .int (zI least), .int (zI ke)])), (pp, .inr (3, [.ref po, .ref pi])), cP po qpo (hi (mono k)), aP E qpo (mono k), cP pi qpi (hi (am t 32002 b k)), aP E qpi (am t 32002 b k), cP bb qbb (hi b), aP E qbb b, cP tg qtg (hi (conv t a)), aP E qtg (conv t a), cP pa qpa (hi a), aP E qpa a]) rfl rfl rfl ?_
  exact hret _ _ _ _ _ dX1_fill_54 (by decide) (by decide) rfl
/-- a pair behind 'keep' -/
def kpc (y a : Po) : Po := if hi y < 0 then a else sc a (ivq (nm y (hi y)))
theorem in_X1_keep_X3 : ∀ w ∈ u_ws RX3 TX3 2, w ∈ wsX1_keep := by decide +kernel
theorem in_X1_keep_X1 : ∀ w ∈ u_ws RX1 TX1 8, w ∈ wsX1_keep := by decide +kernel
theorem lk_X1_keep_image : Cond.fieldLink yX1_keep.cls 65 (TX3 1).1 (TX3 1).2.1 (TX3 1).2.2.1 ∈ wsX1_keep := by decide +kernel
theorem lk_X1_keep_byHighest : Cond.fieldLink yX1_keep.cls 19 (TX1 1).1 (TX1 1).2.1 (TX1 1).2.2.1 ∈ wsX1_keep := by decide +kernel
theorem lk_X1_keep_origin : Cond.fieldLink yX1_keep.cls 50 (TX3 0).1 (TX3 0).2.1 (TX3 0).2.2.1 ∈ wsX1_keep := by decide +kernel
set_option maxHeartbeats 4000000 in
set_option maxRecDepth 100000 in
theorem c_X1_keep (E : ev) (l : Launch) (he ep eb er bb tg pa : Nat) (least ke : Int) (pp po qpo pi qpi : Nat) (x y : Po) (bh : Nat → Option Nat) (hS : Sm x ∧ Sm y) : Mv E l yX1_keep wsX1_keep { frames := 2, cells := 0, slots := 0, locals := 60 } [.ref he, .ref pp] [(he, .inr (1, [.ref ep, .ref eb, .ref er, .ref bb, .ref tg, .ref pa, .int (zI least), .int (zI ke)])), (eb, .inl (E.2.2.2.2, 33, .inr (.inr (.inr (.inr bh))))), (pp, .inr (3, [.ref po, .ref pi])), cP po qpo (hi x), aP E qpo x, cP pi qpi (hi y), aP E qpi y] (fun w => w = [(he, .inr (1, [.ref ep, .ref eb, .ref er, .ref bb, .ref tg, .ref pa, .int (zI least), .int (zI ke)])), (eb, .inl (E.2.2.2.2, 33, .inr (.inr (.inr (.inr (if hi y < 0 then bh else cset bh (hi y).toNat (some pp))))))), (pp, .inr (3, [.ref po, .ref pi])), cP po qpo (hi (kpc y x)), aP E qpo (kpc y x), cP pi qpi (hi (kpc y y)), aP E qpi (kpc y y)]) 0 0 := by
  refine enter_v (cc := cX1_keep) (nL := 4) (by decide) rfl (Nat.le_of_ble_eq_true rfl) (fun G C hret => ?_)
  show G 0 0 [(he, .inr (1, [.ref ep, .ref eb, .ref er, .ref bb, .ref tg, .ref pa, .int (zI least), .int (zI ke)])), (eb, .inl (E.2.2.2.2, 33, .inr (.inr (.inr (.inr bh))))), (pp, .inr (3, [.ref po, .ref pi])), cP po qpo (hi x), aP E qpo x, cP pi qpi (hi y), aP E qpi y] [(0, .ref he), (1, .ref pp)] 0 []
  have hlo := hi_lo y
  refine g_aload_n C dX1_keep_0 1 rfl ?_
  refine g_get C 2 rfl rfl 1 (by decide) in_X1_keep_X3 lk_X1_keep_image rfl dX1_keep_1 ?_
  refine g_callVi (n := 0) (wr := [(he, .inr (1, [.ref ep, .ref eb, .ref er, .ref bb, .ref tg, .ref pa, .int (zI least), .int (zI ke)])), (eb, .inl (E.2.2.2.2, 33, .inr (.inr (.inr (.inr bh))))), (pp, .inr (3, [.ref po, .ref pi])), cP po qpo (hi x), aP E qpo x]) C (c_X4_highest E l pi qpi y) gX1_keep_X4_highest rfl (by decide +kernel) rfl (by decide) dX1_keep_4 rfl (Nat.le_of_ble_eq_true rfl) rfl rfl [5, 6] [0, 1, 2, 3, 4] rfl rfl (by decide) (fun r_4 w_4 h_4 => ?_)
  obtain ⟨rfl, rfl⟩ := h_4
  refine g_eq (ws' := [(he, .inr (1, [.ref ep, .ref eb, .ref er, .ref bb, .ref tg, .ref pa, .int (zI least), .int (zI ke)])), (eb, .inl (E.2.2.2.2, 33, .inr (.inr (.inr (.inr bh))))), (pp, .inr (3, [.ref po, .ref pi])), cP po qpo (hi x), aP E qpo x, cP pi qpi (hi y), aP E qpi y]) rfl rfl rfl ?_
  refine g_istore_n C [(2, .int (zI (hi y))), (0, .ref he), (1, .ref pp)] dX1_keep_7 (by decide) rfl ?_
  refine g_iload_n C dX1_keep_8 0 rfl ?_
  refine g_if_lt C 21 dX1_keep_9 (by decide) (by omega) (by omega) (fun c_9 => ?_) (fun c_9 => ?_)
  · exact hret _ _ _ _ _ dX1_keep_21 (by decide) (by decide) (by unfold kpc; first | rw [if_pos c_9, if_pos c_9, if_pos c_9] | rw [if_neg (show ¬ hi y < 0 by omega), if_neg (show ¬ hi y < 0 by omega), if_neg (show ¬ hi y < 0 by omega)])
  · refine g_iload_n C dX1_keep_12 0 rfl ?_
    refine g_aload_n C dX1_keep_13 1 rfl ?_
    refine g_get C 0 rfl rfl 1 (by decide) in_X1_keep_X1 lk_X1_keep_byHighest rfl dX1_keep_14 ?_
    refine g_alenQ C 1 rfl dX1_keep_17 ?_
    refine g_icmp_lt C 22 dX1_keep_18 (by decide) (by omega) (by omega) (by omega) (by omega) (fun c_18 => ?_) (fun c_18 => by exfalso; omega)
    refine g_aload_n C dX1_keep_22 2 rfl ?_
    refine g_get C 2 rfl rfl 1 (by decide) in_X1_keep_X3 lk_X1_keep_image rfl dX1_keep_23 ?_
    refine g_callVi (n := 0) (wr := [(he, .inr (1, [.ref ep, .ref eb, .ref er, .ref bb, .ref tg, .ref pa, .int (zI least), .int (zI ke)])), (eb, .inl (E.2.2.2.2, 33, .inr (.inr (.inr (.inr bh))))), (pp, .inr (3, [.ref po, .ref pi])), cP po qpo (hi x), aP E qpo x]) C (c_X4_leading E l pi qpi y hS.2) gX1_keep_X4_leading rfl (by decide +kernel) rfl (by decide) dX1_keep_26 rfl (Nat.le_of_ble_eq_true rfl) rfl rfl [5, 6] [0, 1, 2, 3, 4] rfl rfl (by decide) (fun r_26 w_26 h_26 => ?_)
    obtain ⟨rfl, rfl⟩ := h_26
    refine g_eq (ws' := [(he, .inr (1, [.ref ep, .ref eb, .ref er, .ref bb, .ref tg, .ref pa, .int (zI least), .int (zI ke)])), (eb, .inl (E.2.2.2.2, 33, .inr (.inr (.inr (.inr bh))))), (pp, .inr (3, [.ref po, .ref pi])), cP po qpo (hi x), aP E qpo x, cP pi qpi (hi y), aP E qpi y]) rfl rfl rfl ?_
    refine g_callSNi (n := 1) C (c_X7_inverse E l (nm y (hi y))) (by decide +kernel) gX1_keep_X7_inverse_n125 (by decide +kernel) rfl (by decide +kernel) rfl (by decide) dX1_keep_29 rfl (Nat.le_of_ble_eq_true rfl) (fun r_29 h_29 => ?_)
    obtain ⟨_, rfl, -⟩ := h_29
    refine g_istore_n C [(3, .int (zI ((ivq (nm y (hi y))).val : Int))), (2, .int (zI (hi y))), (0, .ref he), (1, .ref pp)] dX1_keep_32 (by decide) rfl ?_
    refine g_aload_n C dX1_keep_33 3 rfl ?_
    refine g_get C 2 rfl rfl 1 (by decide) in_X1_keep_X3 lk_X1_keep_image rfl dX1_keep_34 ?_
    refine g_iload_n C dX1_keep_37 0 rfl ?_
    refine g_callV (n := 1) (wr := [(he, .inr (1, [.ref ep, .ref eb, .ref er, .ref bb, .ref tg, .ref pa, .int (zI least), .int (zI ke)])), (eb, .inl (E.2.2.2.2, 33, .inr (.inr (.inr (.inr bh))))), (pp, .inr (3, [.ref po, .ref pi])), cP po qpo (hi x), aP E qpo x]) C (c_X4_scaleBy E l pi qpi y (ivq (nm y (hi y))) hS.2) gX1_keep_X4_scaleBy rfl (by decide +kernel) rfl (by decide) dX1_keep_38 rfl (Nat.le_of_ble_eq_true rfl) rfl rfl [5, 6] [0, 1, 2, 3, 4] rfl rfl (by decide) (fun w_38 h_38 => ?_)
    obtain rfl := h_38
    refine g_eq (ws' := [(he, .inr (1, [.ref ep, .ref eb, .ref er, .ref bb, .ref tg, .ref pa, .int (zI least), .int (zI ke)])), (eb, .inl (E.2.2.2.2, 33, .inr (.inr (.inr (.inr bh))))), (pp, .inr (3, [.ref po, .ref pi])), cP po qpo (hi x), aP E qpo x, cP pi qpi (hi (sc y (ivq (nm y (hi y))))), aP E qpi (sc y (ivq (nm y (hi y))))]) rfl rfl rfl ?_
    refine g_aload_n C dX1_keep_41 3 rfl ?_
    refine g_get C 2 rfl rfl 0 (by decide) in_X1_keep_X3 lk_X1_keep_origin rfl dX1_keep_42 ?_
    refine g_iload_n C dX1_keep_45 0 rfl ?_
    refine g_callV (n := 1) (wr := [(he, .inr (1, [.ref ep, .ref eb, .ref er, .ref bb, .ref tg, .ref pa, .int (zI least), .int (zI ke)])), (eb, .inl (E.2.2.2.2, 33, .inr (.inr (.inr (.inr bh))))), (pp, .inr (3, [.ref po, .ref pi])), cP pi qpi (hi (sc y (ivq (nm y (hi y))))), aP E qpi (sc y (ivq (nm y (hi y))))]) C (c_X4_scaleBy E l po qpo x (ivq (nm y (hi y))) hS.1) gX1_keep_X4_scaleBy rfl (by decide +kernel) rfl (by decide) dX1_keep_46 rfl (Nat.le_of_ble_eq_true rfl) rfl rfl [3, 4] [0, 1, 2, 5, 6] rfl rfl (by decide) (fun w_46 h_46 => ?_)
    obtain rfl := h_46
    refine g_eq (ws' := [(he, .inr (1, [.ref ep, .ref eb, .ref er, .ref bb, .ref tg, .ref pa, .int (zI least), .int (zI ke)])), (eb, .inl (E.2.2.2.2, 33, .inr (.inr (.inr (.inr bh))))), (pp, .inr (3, [.ref po, .ref pi])), cP pi qpi (hi (sc y (ivq (nm y (hi y))))), aP E qpi (sc y (ivq (nm y (hi y)))), cP po qpo (hi (sc x (ivq (nm y (hi y))))), aP E qpo (sc x (ivq (nm y (hi y))))]) rfl rfl rfl ?_
    refine g_aload_n C dX1_keep_49 2 rfl ?_
    refine g_get C 0 rfl rfl 1 (by decide) in_X1_keep_X1 lk_X1_keep_byHighest rfl dX1_keep_50 ?_
    refine g_iload_n C dX1_keep_53 1 rfl ?_
    refine g_aload_n C dX1_keep_54 3 rfl ?_
    refine g_aast C [(he, .inr (1, [.ref ep, .ref eb, .ref er, .ref bb, .ref tg, .ref pa, .int (zI least), .int (zI ke)])), (eb, .inl (E.2.2.2.2, 33, .inr (.inr (.inr (.inr (cset bh ((hi y).toNat) (some pp))))))), (pp, .inr (3, [.ref po, .ref pi])), cP pi qpi (hi (sc y (ivq (nm y (hi y))))), aP E qpi (sc y (ivq (nm y (hi y)))), cP po qpo (hi (sc x (ivq (nm y (hi y))))), aP E qpo (sc x (ivq (nm y (hi y))))] 1 2 ((hi y).toNat) rfl rfl (by omega) (by omega) (by decide) dX1_keep_55 rfl ?_
    refine g_wsub (ws' := [(he, .inr (1, [.ref ep, .ref eb, .ref er, .ref bb, .ref tg, .ref pa, .int (zI least), .int (zI ke)])), (eb, .inl (E.2.2.2.2, 33, .inr (.inr (.inr (.inr (cset bh ((hi y).toNat) (some pp))))))), (pp, .inr (3, [.ref po, .ref pi])), cP po qpo (hi (sc x (ivq (nm y (hi y))))), aP E qpo (sc x (ivq (nm y (hi y)))), cP pi qpi (hi (sc y (ivq (nm y (hi y))))), aP E qpi (sc y (ivq (nm y (hi y))))]) C [0, 1, 2, 5, 6, 3, 4] (by decide) rfl rfl ?_
    exact hret _ _ _ _ _ dX1_keep_56 (by decide) (by decide) (by unfold kpc; first | rw [if_pos c_9, if_pos c_9, if_pos c_9] | rw [if_neg (show ¬ hi y < 0 by omega), if_neg (show ¬ hi y < 0 by omega), if_neg (show ¬ hi y < 0 by omega)])
theorem in_X1_start_X3 : ∀ w ∈ u_ws RX3 TX3 2, w ∈ wsX1_start := by decide +kernel
theorem in_X1_start_X1 : ∀ w ∈ u_ws RX1 TX1 8, w ∈ wsX1_start := by decide +kernel
theorem lk_X1_start_byHighest : Cond.fieldLink yX1_start.cls 19 (TX1 1).1 (TX1 1).2.1 (TX1 1).2.2.1 ∈ wsX1_start := by decide +kernel
theorem lk_X1_start_remaining : Cond.fieldLink yX1_start.cls 23 (TX1 2).1 (TX1 2).2.1 (TX1 2).2.2.1 ∈ wsX1_start := by decide +kernel
theorem lk_X1_start_image : Cond.fieldLink yX1_start.cls 65 (TX3 1).1 (TX3 1).2.1 (TX3 1).2.2.1 ∈ wsX1_start := by decide +kernel
theorem lk_X1_start_origin : Cond.fieldLink yX1_start.cls 50 (TX3 0).1 (TX3 0).2.1 (TX3 0).2.2.1 ∈ wsX1_start := by decide +kernel
theorem lk_X1_start_bottomBefore : Cond.fieldLink yX1_start.cls 28 (TX1 3).1 (TX1 3).2.1 (TX1 3).2.2.1 ∈ wsX1_start := by decide +kernel
theorem lk_X1_start_topGrown : Cond.fieldLink yX1_start.cls 32 (TX1 4).1 (TX1 4).2.1 (TX1 4).2.2.1 ∈ wsX1_start := by decide +kernel
set_option maxHeartbeats 4000000 in
set_option maxRecDepth 100000 in
theorem c_X1_start (E : ev) (l : Launch) (he ep eb er bb tg pa : Nat) (least ke : Int) (qbb qtg eo qo ei qi hp t qt b qb e qe m dg : Nat) (kp : Int) (x y z g a bb0 c : Po) (bh : Nat → Option Nat) (hS : Sm x ∧ Sm y ∧ Sm z ∧ Sm g) (hSa : Sm a ∧ Sm bb0 ∧ Sm c) : Mv E l yX1_start wsX1_start { frames := 2, cells := 0, slots := 0, locals := 60 } [.ref he, .ref hp] [(he, .inr (1, [.ref ep, .ref eb, .ref er, .ref bb, .ref tg, .ref pa, .int (zI least), .int (zI ke)])), (eb, .inl (E.2.2.2.2, 33, .inr (.inr (.inr (.inr bh))))), (er, .inr (3, [.ref eo, .ref ei])), cP eo qo (hi x), aP E qo x, cP ei qi (hi y), aP E qi y, cP bb qbb (hi z), aP E qbb z, cP tg qtg (hi g), aP E qtg g, (hp, .inr (6, [.ref t, .ref b, .ref e, .ref m, .ref dg, .int (zI kp)])), cP t qt (hi a), aP E qt a, cP b qb (hi bb0), aP E qb bb0, cP e qe (hi c), aP E qe c] (fun w => ∃ bh2 : Nat → Option Nat, (∀ j : Nat, j < 33 → bh2 j = none) ∧ w = [(he, .inr (1, [.ref ep, .ref eb, .ref er, .ref bb, .ref tg, .ref pa, .int (zI least), .int (zI ke)])), (eb, .inl (E.2.2.2.2, 33, .inr (.inr (.inr (.inr bh2))))), (er, .inr (3, [.ref eo, .ref ei])), cP eo qo (hi (con 0)), aP E qo (con 0), cP ei qi (hi c), aP E qi c, cP bb qbb (hi (mvp bb0 32002)), aP E qbb (mvp bb0 32002), cP tg qtg (hi a), aP E qtg a, (hp, .inr (6, [.ref t, .ref b, .ref e, .ref m, .ref dg, .int (zI kp)])), cP t qt (hi a), aP E qt a, cP b qb (hi bb0), aP E qb bb0, cP e qe (hi c), aP E qe c]) 0 0 := by
  refine enter_v (cc := cX1_start) (nL := 3) (by decide) rfl (Nat.le_of_ble_eq_true rfl) (fun G C hret => ?_)
  show G 0 0 [(he, .inr (1, [.ref ep, .ref eb, .ref er, .ref bb, .ref tg, .ref pa, .int (zI least), .int (zI ke)])), (eb, .inl (E.2.2.2.2, 33, .inr (.inr (.inr (.inr bh))))), (er, .inr (3, [.ref eo, .ref ei])), cP eo qo (hi x), aP E qo x, cP ei qi (hi y), aP E qi y, cP bb qbb (hi z), aP E qbb z, cP tg qtg (hi g), aP E qtg g, (hp, .inr (6, [.ref t, .ref b, .ref e, .ref m, .ref dg, .int (zI kp)])), cP t qt (hi a), aP E qt a, cP b qb (hi bb0), aP E qb bb0, cP e qe (hi c), aP E qe c] [(0, .ref he), (1, .ref hp)] 0 []
  refine g_iconst C dX1_start_0 ?_
  refine g_istore_n C [(2, .int (zI 0)), (0, .ref he), (1, .ref hp)] dX1_start_1 (by decide) rfl ?_
  have lp_o : ∀ (n_o : Nat) (x9 : Int) (k : Nat) (f : Nat → Option Nat), (x9 = (k : Int)) → (k ≤ 33) → (∀ j : Nat, j < k → f j = none) → 33 - k < n_o → G 0 0 [(he, .inr (1, [.ref ep, .ref eb, .ref er, .ref bb, .ref tg, .ref pa, .int (zI least), .int (zI ke)])), (eb, .inl (E.2.2.2.2, 33, .inr (.inr (.inr (.inr f))))), (er, .inr (3, [.ref eo, .ref ei])), cP eo qo (hi x), aP E qo x, cP ei qi (hi y), aP E qi y, cP bb qbb (hi z), aP E qbb z, cP tg qtg (hi g), aP E qtg g, (hp, .inr (6, [.ref t, .ref b, .ref e, .ref m, .ref dg, .int (zI kp)])), cP t qt (hi a), aP E qt a, cP b qb (hi bb0), aP E qb bb0, cP e qe (hi c), aP E qe c] [(2, .int (zI x9)), (0, .ref he), (1, .ref hp)] 2 [] := by
    intro n_o
    induction n_o with
    | zero =>
      intro x9 k f hx hk hf hm_o
      exact absurd hm_o (by omega)
    | succ n_o ih_o =>
      intro x9 k f hx hk hf hm_o
      refine g_iload_n C dX1_start_2 0 rfl ?_
      refine g_aload_n C dX1_start_3 1 rfl ?_
      refine g_get C 0 rfl rfl 1 (by decide) in_X1_start_X1 lk_X1_start_byHighest rfl dX1_start_4 ?_
      refine g_alenQ C 1 rfl dX1_start_7 ?_
      refine g_icmp_ge C 24 dX1_start_8 (by decide) (by omega) (by omega) (by omega) (by omega) (fun c_8 => ?_) (fun c_8 => ?_)
      · refine g_aload_n C dX1_start_24 1 rfl ?_
        refine g_get C 0 rfl rfl 2 (by decide) in_X1_start_X1 lk_X1_start_remaining rfl dX1_start_25 ?_
        refine g_get C 2 rfl rfl 1 (by decide) in_X1_start_X3 lk_X1_start_image rfl dX1_start_28 ?_
        refine g_aload_n C dX1_start_31 2 rfl ?_
        refine g_iconst C dX1_start_32 ?_
        refine g_callVr (n := 1) (wr := [(he, .inr (1, [.ref ep, .ref eb, .ref er, .ref bb, .ref tg, .ref pa, .int (zI least), .int (zI ke)])), (eb, .inl (E.2.2.2.2, 33, .inr (.inr (.inr (.inr f))))), (er, .inr (3, [.ref eo, .ref ei])), cP eo qo (hi x), aP E qo x, cP ei qi (hi y), aP E qi y, cP bb qbb (hi z), aP E qbb z, cP tg qtg (hi g), aP E qtg g, cP t qt (hi a), aP E qt a, cP b qb (hi bb0), aP E qb bb0, cP e qe (hi c), aP E qe c]) C (c_X6_part E l hp t b e m dg kp 2 (by omega) (by omega)) gX1_start_X6_part rfl (by decide +kernel) rfl (by decide) dX1_start_33 rfl (Nat.le_of_ble_eq_true rfl) rfl rfl [11] [0, 1, 2, 3, 4, 5, 6, 7, 8, 9, 10, 12, 13, 14, 15, 16, 17] rfl rfl (by decide) (fun r_33 w_33 h_33 => ?_)
        obtain ⟨hr9, rfl⟩ := h_33
        refine g_eq (ws' := [(he, .inr (1, [.ref ep, .ref eb, .ref er, .ref bb, .ref tg, .ref pa, .int (zI least), .int (zI ke)])), (eb, .inl (E.2.2.2.2, 33, .inr (.inr (.inr (.inr f))))), (er, .inr (3, [.ref eo, .ref ei])), cP eo qo (hi x), aP E qo x, cP ei qi (hi y), aP E qi y, cP bb qbb (hi z), aP E qbb z, cP tg qtg (hi g), aP E qtg g, cP t qt (hi a), aP E qt a, cP b qb (hi bb0), aP E qb bb0, cP e qe (hi c), aP E qe c, (hp, .inr (6, [.ref t, .ref b, .ref e, .ref m, .ref dg, .int (zI kp)]))]) rfl rfl rfl ?_
        rw [hr9, if_neg (by decide), if_neg (by decide)]
        clear hr9
        refine g_callV (n := 1) (wr := [(he, .inr (1, [.ref ep, .ref eb, .ref er, .ref bb, .ref tg, .ref pa, .int (zI least), .int (zI ke)])), (eb, .inl (E.2.2.2.2, 33, .inr (.inr (.inr (.inr f))))), (er, .inr (3, [.ref eo, .ref ei])), cP eo qo (hi x), aP E qo x, cP bb qbb (hi z), aP E qbb z, cP tg qtg (hi g), aP E qtg g, cP t qt (hi a), aP E qt a, cP b qb (hi bb0), aP E qb bb0, (hp, .inr (6, [.ref t, .ref b, .ref e, .ref m, .ref dg, .int (zI kp)]))]) C (c_X4_copyFrom E l ei qi e qe y c hS.2.1 hSa.2.2) gX1_start_X4_copyFrom rfl (by decide +kernel) rfl (by decide) dX1_start_36 rfl (Nat.le_of_ble_eq_true rfl) rfl rfl [5, 6, 15, 16] [0, 1, 2, 3, 4, 7, 8, 9, 10, 11, 12, 13, 14, 17] rfl rfl (by decide) (fun w_36 h_36 => ?_)
        obtain rfl := h_36
        refine g_eq (ws' := [(he, .inr (1, [.ref ep, .ref eb, .ref er, .ref bb, .ref tg, .ref pa, .int (zI least), .int (zI ke)])), (eb, .inl (E.2.2.2.2, 33, .inr (.inr (.inr (.inr f))))), (er, .inr (3, [.ref eo, .ref ei])), cP eo qo (hi x), aP E qo x, cP bb qbb (hi z), aP E qbb z, cP tg qtg (hi g), aP E qtg g, cP t qt (hi a), aP E qt a, cP b qb (hi bb0), aP E qb bb0, (hp, .inr (6, [.ref t, .ref b, .ref e, .ref m, .ref dg, .int (zI kp)])), cP ei qi (hi c), aP E qi c, cP e qe (hi c), aP E qe c]) rfl rfl rfl ?_
        refine g_aload_n C dX1_start_39 1 rfl ?_
        refine g_get C 0 rfl rfl 2 (by decide) in_X1_start_X1 lk_X1_start_remaining rfl dX1_start_40 ?_
        refine g_get C 2 rfl rfl 0 (by decide) in_X1_start_X3 lk_X1_start_origin rfl dX1_start_43 ?_
        refine g_iconst C dX1_start_46 ?_
        refine g_callV (n := 1) (wr := [(he, .inr (1, [.ref ep, .ref eb, .ref er, .ref bb, .ref tg, .ref pa, .int (zI least), .int (zI ke)])), (eb, .inl (E.2.2.2.2, 33, .inr (.inr (.inr (.inr f))))), (er, .inr (3, [.ref eo, .ref ei])), cP bb qbb (hi z), aP E qbb z, cP tg qtg (hi g), aP E qtg g, cP t qt (hi a), aP E qt a, cP b qb (hi bb0), aP E qb bb0, (hp, .inr (6, [.ref t, .ref b, .ref e, .ref m, .ref dg, .int (zI kp)])), cP ei qi (hi c), aP E qi c, cP e qe (hi c), aP E qe c]) C (c_X4_becomeNumber E l eo qo x 0 hS.1) gX1_start_X4_becomeNumber rfl (by decide +kernel) rfl (by decide) dX1_start_47 rfl (Nat.le_of_ble_eq_true rfl) rfl rfl [3, 4] [0, 1, 2, 5, 6, 7, 8, 9, 10, 11, 12, 13, 14, 15, 16, 17] rfl rfl (by decide) (fun w_47 h_47 => ?_)
        obtain rfl := h_47
        refine g_eq (ws' := [(he, .inr (1, [.ref ep, .ref eb, .ref er, .ref bb, .ref tg, .ref pa, .int (zI least), .int (zI ke)])), (eb, .inl (E.2.2.2.2, 33, .inr (.inr (.inr (.inr f))))), (er, .inr (3, [.ref eo, .ref ei])), cP bb qbb (hi z), aP E qbb z, cP tg qtg (hi g), aP E qtg g, cP t qt (hi a), aP E qt a, cP b qb (hi bb0), aP E qb bb0, (hp, .inr (6, [.ref t, .ref b, .ref e, .ref m, .ref dg, .int (zI kp)])), cP ei qi (hi c), aP E qi c, cP e qe (hi c), aP E qe c, cP eo qo (hi (con 0)), aP E qo (con 0)]) rfl rfl rfl ?_
        refine g_aload_n C dX1_start_50 1 rfl ?_
        refine g_get C 0 rfl rfl 3 (by decide) in_X1_start_X1 lk_X1_start_bottomBefore rfl dX1_start_51 ?_
        refine g_aload_n C dX1_start_54 2 rfl ?_
        refine g_iconst C dX1_start_55 ?_
        refine g_callVr (n := 1) (wr := [(he, .inr (1, [.ref ep, .ref eb, .ref er, .ref bb, .ref tg, .ref pa, .int (zI least), .int (zI ke)])), (eb, .inl (E.2.2.2.2, 33, .inr (.inr (.inr (.inr f))))), (er, .inr (3, [.ref eo, .ref ei])), cP bb qbb (hi z), aP E qbb z, cP tg qtg (hi g), aP E qtg g, cP t qt (hi a), aP E qt a, cP b qb (hi bb0), aP E qb bb0, cP ei qi (hi c), aP E qi c, cP e qe (hi c), aP E qe c, cP eo qo (hi (con 0)), aP E qo (con 0)]) C (c_X6_part E l hp t b e m dg kp 1 (by omega) (by omega)) gX1_start_X6_part rfl (by decide +kernel) rfl (by decide) dX1_start_56 rfl (Nat.le_of_ble_eq_true rfl) rfl rfl [11] [0, 1, 2, 3, 4, 5, 6, 7, 8, 9, 10, 12, 13, 14, 15, 16, 17] rfl rfl (by decide) (fun r_56 w_56 h_56 => ?_)
        obtain ⟨hr9, rfl⟩ := h_56
        refine g_eq (ws' := [(he, .inr (1, [.ref ep, .ref eb, .ref er, .ref bb, .ref tg, .ref pa, .int (zI least), .int (zI ke)])), (eb, .inl (E.2.2.2.2, 33, .inr (.inr (.inr (.inr f))))), (er, .inr (3, [.ref eo, .ref ei])), cP bb qbb (hi z), aP E qbb z, cP tg qtg (hi g), aP E qtg g, cP t qt (hi a), aP E qt a, cP b qb (hi bb0), aP E qb bb0, cP ei qi (hi c), aP E qi c, cP e qe (hi c), aP E qe c, cP eo qo (hi (con 0)), aP E qo (con 0), (hp, .inr (6, [.ref t, .ref b, .ref e, .ref m, .ref dg, .int (zI kp)]))]) rfl rfl rfl ?_
        rw [hr9, if_neg (by decide), if_pos rfl]
        clear hr9
        refine g_callV (n := 1) (wr := [(he, .inr (1, [.ref ep, .ref eb, .ref er, .ref bb, .ref tg, .ref pa, .int (zI least), .int (zI ke)])), (eb, .inl (E.2.2.2.2, 33, .inr (.inr (.inr (.inr f))))), (er, .inr (3, [.ref eo, .ref ei])), cP tg qtg (hi g), aP E qtg g, cP t qt (hi a), aP E qt a, cP ei qi (hi c), aP E qi c, cP e qe (hi c), aP E qe c, cP eo qo (hi (con 0)), aP E qo (con 0), (hp, .inr (6, [.ref t, .ref b, .ref e, .ref m, .ref dg, .int (zI kp)]))]) C (c_X4_copyFrom E l bb qbb b qb z bb0 hS.2.2.1 hSa.2.1) gX1_start_X4_copyFrom rfl (by decide +kernel) rfl (by decide) dX1_start_59 rfl (Nat.le_of_ble_eq_true rfl) rfl rfl [3, 4, 9, 10] [0, 1, 2, 5, 6, 7, 8, 11, 12, 13, 14, 15, 16, 17] rfl rfl (by decide) (fun w_59 h_59 => ?_)
        obtain rfl := h_59
        refine g_eq (ws' := [(he, .inr (1, [.ref ep, .ref eb, .ref er, .ref bb, .ref tg, .ref pa, .int (zI least), .int (zI ke)])), (eb, .inl (E.2.2.2.2, 33, .inr (.inr (.inr (.inr f))))), (er, .inr (3, [.ref eo, .ref ei])), cP tg qtg (hi g), aP E qtg g, cP t qt (hi a), aP E qt a, cP ei qi (hi c), aP E qi c, cP e qe (hi c), aP E qe c, cP eo qo (hi (con 0)), aP E qo (con 0), (hp, .inr (6, [.ref t, .ref b, .ref e, .ref m, .ref dg, .int (zI kp)])), cP bb qbb (hi bb0), aP E qbb bb0, cP b qb (hi bb0), aP E qb bb0]) rfl rfl rfl ?_
        refine g_aload_n C dX1_start_62 1 rfl ?_
        refine g_get C 0 rfl rfl 3 (by decide) in_X1_start_X1 lk_X1_start_bottomBefore rfl dX1_start_63 ?_
        refine g_sipush C dX1_start_66 rfl ?_
        refine g_callV (n := 1) (wr := [(he, .inr (1, [.ref ep, .ref eb, .ref er, .ref bb, .ref tg, .ref pa, .int (zI least), .int (zI ke)])), (eb, .inl (E.2.2.2.2, 33, .inr (.inr (.inr (.inr f))))), (er, .inr (3, [.ref eo, .ref ei])), cP tg qtg (hi g), aP E qtg g, cP t qt (hi a), aP E qt a, cP ei qi (hi c), aP E qi c, cP e qe (hi c), aP E qe c, cP eo qo (hi (con 0)), aP E qo (con 0), (hp, .inr (6, [.ref t, .ref b, .ref e, .ref m, .ref dg, .int (zI kp)])), cP b qb (hi bb0), aP E qb bb0]) C (c_X4_moveBy E l bb qbb bb0 32002 hSa.2.1) gX1_start_X4_moveBy rfl (by decide +kernel) rfl (by decide) dX1_start_69 rfl (Nat.le_of_ble_eq_true rfl) rfl rfl [14, 15] [0, 1, 2, 3, 4, 5, 6, 7, 8, 9, 10, 11, 12, 13, 16, 17] rfl rfl (by decide) (fun w_69 h_69 => ?_)
        obtain rfl := h_69
        refine g_eq (ws' := [(he, .inr (1, [.ref ep, .ref eb, .ref er, .ref bb, .ref tg, .ref pa, .int (zI least), .int (zI ke)])), (eb, .inl (E.2.2.2.2, 33, .inr (.inr (.inr (.inr f))))), (er, .inr (3, [.ref eo, .ref ei])), cP tg qtg (hi g), aP E qtg g, cP t qt (hi a), aP E qt a, cP ei qi (hi c), aP E qi c, cP e qe (hi c), aP E qe c, cP eo qo (hi (con 0)), aP E qo (con 0), (hp, .inr (6, [.ref t, .ref b, .ref e, .ref m, .ref dg, .int (zI kp)])), cP b qb (hi bb0), aP E qb bb0, cP bb qbb (hi (mvp bb0 32002)), aP E qbb (mvp bb0 32002)]) rfl rfl rfl ?_
        refine g_aload_n C dX1_start_72 1 rfl ?_
        refine g_get C 0 rfl rfl 4 (by decide) in_X1_start_X1 lk_X1_start_topGrown rfl dX1_start_73 ?_
        refine g_aload_n C dX1_start_76 2 rfl ?_
        refine g_iconst C dX1_start_77 ?_
        refine g_callVr (n := 1) (wr := [(he, .inr (1, [.ref ep, .ref eb, .ref er, .ref bb, .ref tg, .ref pa, .int (zI least), .int (zI ke)])), (eb, .inl (E.2.2.2.2, 33, .inr (.inr (.inr (.inr f))))), (er, .inr (3, [.ref eo, .ref ei])), cP tg qtg (hi g), aP E qtg g, cP t qt (hi a), aP E qt a, cP ei qi (hi c), aP E qi c, cP e qe (hi c), aP E qe c, cP eo qo (hi (con 0)), aP E qo (con 0), cP b qb (hi bb0), aP E qb bb0, cP bb qbb (hi (mvp bb0 32002)), aP E qbb (mvp bb0 32002)]) C (c_X6_part E l hp t b e m dg kp 0 (by omega) (by omega)) gX1_start_X6_part rfl (by decide +kernel) rfl (by decide) dX1_start_78 rfl (Nat.le_of_ble_eq_true rfl) rfl rfl [13] [0, 1, 2, 3, 4, 5, 6, 7, 8, 9, 10, 11, 12, 14, 15, 16, 17] rfl rfl (by decide) (fun r_78 w_78 h_78 => ?_)
        obtain ⟨hr9, rfl⟩ := h_78
        refine g_eq (ws' := [(he, .inr (1, [.ref ep, .ref eb, .ref er, .ref bb, .ref tg, .ref pa, .int (zI least), .int (zI ke)])), (eb, .inl (E.2.2.2.2, 33, .inr (.inr (.inr (.inr f))))), (er, .inr (3, [.ref eo, .ref ei])), cP tg qtg (hi g), aP E qtg g, cP t qt (hi a), aP E qt a, cP ei qi (hi c), aP E qi c, cP e qe (hi c), aP E qe c, cP eo qo (hi (con 0)), aP E qo (con 0), cP b qb (hi bb0), aP E qb bb0, cP bb qbb (hi (mvp bb0 32002)), aP E qbb (mvp bb0 32002), (hp, .inr (6, [.ref t, .ref b, .ref e, .ref m, .ref dg, .int (zI kp)]))]) rfl rfl rfl ?_
        rw [hr9, if_pos rfl]
        clear hr9
        refine g_callV (n := 1) (wr := [(he, .inr (1, [.ref ep, .ref eb, .ref er, .ref bb, .ref tg, .ref pa, .int (zI least), .int (zI ke)])), (eb, .inl (E.2.2.2.2, 33, .inr (.inr (.inr (.inr f))))), (er, .inr (3, [.ref eo, .ref ei])), cP ei qi (hi c), aP E qi c, cP e qe (hi c), aP E qe c, cP eo qo (hi (con 0)), aP E qo (con 0), cP b qb (hi bb0), aP E qb bb0, cP bb qbb (hi (mvp bb0 32002)), aP E qbb (mvp bb0 32002), (hp, .inr (6, [.ref t, .ref b, .ref e, .ref m, .ref dg, .int (zI kp)]))]) C (c_X4_copyFrom E l tg qtg t qt g a hS.2.2.2 hSa.1) gX1_start_X4_copyFrom rfl (by decide +kernel) rfl (by decide) dX1_start_81 rfl (Nat.le_of_ble_eq_true rfl) rfl rfl [3, 4, 5, 6] [0, 1, 2, 7, 8, 9, 10, 11, 12, 13, 14, 15, 16, 17] rfl rfl (by decide) (fun w_81 h_81 => ?_)
        obtain rfl := h_81
        refine g_eq (ws' := [(he, .inr (1, [.ref ep, .ref eb, .ref er, .ref bb, .ref tg, .ref pa, .int (zI least), .int (zI ke)])), (eb, .inl (E.2.2.2.2, 33, .inr (.inr (.inr (.inr f))))), (er, .inr (3, [.ref eo, .ref ei])), cP ei qi (hi c), aP E qi c, cP e qe (hi c), aP E qe c, cP eo qo (hi (con 0)), aP E qo (con 0), cP b qb (hi bb0), aP E qb bb0, cP bb qbb (hi (mvp bb0 32002)), aP E qbb (mvp bb0 32002), (hp, .inr (6, [.ref t, .ref b, .ref e, .ref m, .ref dg, .int (zI kp)])), cP tg qtg (hi a), aP E qtg a, cP t qt (hi a), aP E qt a]) rfl rfl rfl ?_
        refine g_wsub (ws' := [(he, .inr (1, [.ref ep, .ref eb, .ref er, .ref bb, .ref tg, .ref pa, .int (zI least), .int (zI ke)])), (eb, .inl (E.2.2.2.2, 33, .inr (.inr (.inr (.inr f))))), (er, .inr (3, [.ref eo, .ref ei])), cP eo qo (hi (con 0)), aP E qo (con 0), cP ei qi (hi c), aP E qi c, cP bb qbb (hi (mvp bb0 32002)), aP E qbb (mvp bb0 32002), cP tg qtg (hi a), aP E qtg a, (hp, .inr (6, [.ref t, .ref b, .ref e, .ref m, .ref dg, .int (zI kp)])), cP t qt (hi a), aP E qt a, cP b qb (hi bb0), aP E qb bb0, cP e qe (hi c), aP E qe c]) C [0, 1, 2, 7, 8, 3, 4, 11, 12, 14, 15, 13, 16, 17, 9, 10, 5, 6] (by decide) rfl rfl ?_
        exact hret _ _ _ _ _ dX1_start_84 (by decide) (by decide) ⟨f, fun j hj => hf j (by omega), rfl⟩
      · refine g_aload_n C dX1_start_11 1 rfl ?_
        refine g_get C 0 rfl rfl 1 (by decide) in_X1_start_X1 lk_X1_start_byHighest rfl dX1_start_12 ?_
        refine g_iload_n C dX1_start_15 0 rfl ?_
        refine g_null C dX1_start_16 ?_
        refine g_aastN C [(he, .inr (1, [.ref ep, .ref eb, .ref er, .ref bb, .ref tg, .ref pa, .int (zI least), .int (zI ke)])), (eb, .inl (E.2.2.2.2, 33, .inr (.inr (.inr (.inr (cset f k none)))))), (er, .inr (3, [.ref eo, .ref ei])), cP eo qo (hi x), aP E qo x, cP ei qi (hi y), aP E qi y, cP bb qbb (hi z), aP E qbb z, cP tg qtg (hi g), aP E qtg g, (hp, .inr (6, [.ref t, .ref b, .ref e, .ref m, .ref dg, .int (zI kp)])), cP t qt (hi a), aP E qt a, cP b qb (hi bb0), aP E qb bb0, cP e qe (hi c), aP E qe c] 1 k rfl (by omega) (by omega) (by decide) dX1_start_17 rfl ?_
        refine g_iinc C [(2, .int (zI (x9 + 1))), (0, .ref he), (1, .ref hp)] dX1_start_18 0 rfl (by decide) rfl ?_
        refine g_goto C 2 dX1_start_21 (by decide) ?_
        exact ih_o (x9 + 1) (k + 1) (cset f k none) (by omega) (by omega) (fun j hj => by unfold cset; split; rfl; exact hf j (by omega)) (by omega)
  exact lp_o 34 0 0 bh rfl (by omega) (fun j hj => absurd hj (by omega)) (by omega)
