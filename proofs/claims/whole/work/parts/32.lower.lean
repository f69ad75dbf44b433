theorem in_X1_lower_X3 : ∀ w ∈ u_ws RX3 TX3 2, w ∈ wsX1_lower := by decide +kernel
theorem in_X1_lower_X1 : ∀ w ∈ u_ws RX1 TX1 8, w ∈ wsX1_lower := by decide +kernel
theorem lk_X1_lower_image : Cond.fieldLink yX1_lower.cls 65 (TX3 1).1 (TX3 1).2.1 (TX3 1).2.2.1 ∈ wsX1_lower := by decide +kernel
theorem lk_X1_lower_byHighest : Cond.fieldLink yX1_lower.cls 19 (TX1 1).1 (TX1 1).2.1 (TX1 1).2.2.1 ∈ wsX1_lower := by decide +kernel
theorem lk_X1_lower_mn : Cond.methodLink yX1_lower.cls 109 Lib.Math.min.name ∈ wsX1_lower ∧ Cond.static Lib.Math.min.name ∈ wsX1_lower ∧ Cond.initialized "java/lang/Math" ∈ wsX1_lower ∧ Cond.code Lib.Math.min.name Lib.Math.min.code 2 (some .int) ∈ wsX1_lower := by decide +kernel
theorem lk_X1_lower_origin : Cond.fieldLink yX1_lower.cls 50 (TX3 0).1 (TX3 0).2.1 (TX3 0).2.2.1 ∈ wsX1_lower := by decide +kernel
set_option maxHeartbeats 4000000 in
set_option maxRecDepth 100000 in
theorem c_X1_lower (E : ev) (l : Launch) (he ep eb er bb tg pa : Nat) (least ke : Int) (pp po qpo pi qpi : Nat) (x y : Po) (bh kx : Nat → Option Nat) (F : Nat → Nat × Nat × Nat × Nat × Nat) (o i : Nat → Po) (js : List Nat) (hS : Sm x ∧ Sm y) (hbh : ∀ p : Nat, p < 33 → bh p = (kx p).map (fun j => (F j).1)) (hkp : KpOk kx o i js) : Mv E l yX1_lower wsX1_lower { frames := 2, cells := 0, slots := 0, locals := 60 } [.ref he, .ref pp] ([(he, .inr (1, [.ref ep, .ref eb, .ref er, .ref bb, .ref tg, .ref pa, .int (zI least), .int (zI ke)])), (eb, .inl (E.2.2.2.2, 33, .inr (.inr (.inr (.inr bh))))), (pp, .inr (3, [.ref po, .ref pi])), cP po qpo (hi x), aP E qpo x, cP pi qpi (hi y), aP E qpi y] ++ fam E F o i js) (fun w => w = [(he, .inr (1, [.ref ep, .ref eb, .ref er, .ref bb, .ref tg, .ref pa, .int (zI least), .int (zI ke)])), (eb, .inl (E.2.2.2.2, 33, .inr (.inr (.inr (.inr bh))))), (pp, .inr (3, [.ref po, .ref pi])), cP po qpo (hi ((lowr kx o i y x).2)), aP E qpo ((lowr kx o i y x).2), cP pi qpi (hi ((lowr kx o i y x).1)), aP E qpi ((lowr kx o i y x).1)] ++ fam E F o i js) 0 0 := by
  refine enter_v (cc := cX1_lower) (nL := 6) (by decide) rfl (Nat.le_of_ble_eq_true rfl) (fun G C hret => ?_)
  show G 0 0 ([(he, .inr (1, [.ref ep, .ref eb, .ref er, .ref bb, .ref tg, .ref pa, .int (zI least), .int (zI ke)])), (eb, .inl (E.2.2.2.2, 33, .inr (.inr (.inr (.inr bh))))), (pp, .inr (3, [.ref po, .ref pi])), cP po qpo (hi x), aP E qpo x, cP pi qpi (hi y), aP E qpi y] ++ fam E F o i js) [(0, .ref he), (1, .ref pp)] 0 []
  have hlo := hi_lo y
  refine g_in C (fun G2 C2 back2 => ?_)
  refine g_aload_n C2 dX1_lower_0 1 rfl ?_
  refine g_get C2 2 rfl rfl 1 (by decide) in_X1_lower_X3 lk_X1_lower_image rfl dX1_lower_1 ?_
  refine g_callVi (n := 0) (wr := [(he, .inr (1, [.ref ep, .ref eb, .ref er, .ref bb, .ref tg, .ref pa, .int (zI least), .int (zI ke)])), (eb, .inl (E.2.2.2.2, 33, .inr (.inr (.inr (.inr bh))))), (pp, .inr (3, [.ref po, .ref pi])), cP po qpo (hi x), aP E qpo x]) C2 (c_X4_highest E l pi qpi y) gX1_lower_X4_highest rfl (by decide +kernel) rfl (by decide) dX1_lower_4 rfl (Nat.le_of_ble_eq_true rfl) rfl rfl [5, 6] [0, 1, 2, 3, 4] rfl rfl (by decide) (fun r_4 w_4 h_4 => ?_)
  obtain ⟨rfl, rfl⟩ := h_4
  refine g_eq (ws' := [(he, .inr (1, [.ref ep, .ref eb, .ref er, .ref bb, .ref tg, .ref pa, .int (zI least), .int (zI ke)])), (eb, .inl (E.2.2.2.2, 33, .inr (.inr (.inr (.inr bh))))), (pp, .inr (3, [.ref po, .ref pi])), cP po qpo (hi x), aP E qpo x, cP pi qpi (hi y), aP E qpi y]) rfl rfl rfl ?_
  refine g_aload_n C2 dX1_lower_7 0 rfl ?_
  refine g_get C2 0 rfl rfl 1 (by decide) in_X1_lower_X1 lk_X1_lower_byHighest rfl dX1_lower_8 ?_
  refine g_alenQ C2 1 rfl dX1_lower_11 ?_
  refine g_iconst C2 dX1_lower_12 ?_
  refine g_isub C2 dX1_lower_13 ?_
  refine g_mmin C2 lk_X1_lower_mn dX1_lower_14 (by omega) (by omega) (by omega) (by omega) (by decide) (Nat.le_of_ble_eq_true rfl) ?_
  refine g_istore_n C2 [(2, .int (zI (min (hi y) (((33 : Nat) : Int) - 1)))), (0, .ref he), (1, .ref pp)] dX1_lower_17 (by decide) rfl ?_
  refine g_iload_n C2 dX1_lower_18 0 rfl ?_
  refine g_istore_n C2 [(3, .int (zI (min (hi y) (((33 : Nat) : Int) - 1)))), (2, .int (zI (min (hi y) (((33 : Nat) : Int) - 1)))), (0, .ref he), (1, .ref pp)] dX1_lower_19 (by decide) rfl ?_
  have lp_o : ∀ (n_o : Nat) (x9 : Int) (n : Nat) (yy : Po) (xx : Po), (x9 = (n : Int) - 1) → (n ≤ 33) → (low kx o i n yy xx = lowr kx o i y x) → (Sm yy) → (Sm xx) → n < n_o → G 0 0 ([(he, .inr (1, [.ref ep, .ref eb, .ref er, .ref bb, .ref tg, .ref pa, .int (zI least), .int (zI ke)])), (eb, .inl (E.2.2.2.2, 33, .inr (.inr (.inr (.inr bh))))), (pp, .inr (3, [.ref po, .ref pi])), cP po qpo (hi xx), aP E qpo xx, cP pi qpi (hi yy), aP E qpi yy] ++ fam E F o i js) [(3, .int (zI x9)), (0, .ref he), (1, .ref pp)] 20 [] := by
    intro n_o
    induction n_o with
    | zero =>
      intro x9 n yy xx hx hn hl hSy hSx hm_o
      exact absurd hm_o (by omega)
    | succ n_o ih_o =>
      intro x9 n yy xx hx hn hl hSy hSx hm_o
      refine g_in C (fun G_o C_o back_o => ?_)
      refine g_iload_n C_o dX1_lower_20 0 rfl ?_
      refine g_if_lt C_o 95 dX1_lower_21 (by decide) (by omega) (by omega) (fun c_21 => ?_) (fun c_21 => ?_)
      · have e0 : (yy, xx) = lowr kx o i y x := by rw [← hl, show n = 0 by omega]; rfl
        refine back_o _ _ _ _ _ _ ?_
        have e1 : yy = (lowr kx o i y x).1 := congrArg Prod.fst e0
        have e2 : xx = (lowr kx o i y x).2 := congrArg Prod.snd e0
        exact hret _ _ _ _ _ dX1_lower_95 (by decide) (by decide) (by rw [e1, e2])
      · obtain ⟨n2, rfl⟩ : ∃ n2, n = n2 + 1 := ⟨n - 1, by omega⟩
        refine g_aload_n C_o dX1_lower_24 2 rfl ?_
        refine g_get C_o 2 rfl rfl 1 (by decide) in_X1_lower_X3 lk_X1_lower_image rfl dX1_lower_25 ?_
        refine g_iload_n C_o dX1_lower_28 0 rfl ?_
        refine g_callVi (n := 1) (wr := [(he, .inr (1, [.ref ep, .ref eb, .ref er, .ref bb, .ref tg, .ref pa, .int (zI least), .int (zI ke)])), (eb, .inl (E.2.2.2.2, 33, .inr (.inr (.inr (.inr bh))))), (pp, .inr (3, [.ref po, .ref pi])), cP po qpo (hi xx), aP E qpo xx]) C_o (c_X4_number E l pi qpi yy x9 hSy (by omega) (by omega)) gX1_lower_X4_number rfl (by decide +kernel) rfl (by decide) dX1_lower_29 rfl (Nat.le_of_ble_eq_true rfl) rfl rfl [5, 6] [0, 1, 2, 3, 4] rfl rfl (by decide) (fun r_29 w_29 h_29 => ?_)
        obtain ⟨rfl, rfl⟩ := h_29
        refine g_eq (ws' := [(he, .inr (1, [.ref ep, .ref eb, .ref er, .ref bb, .ref tg, .ref pa, .int (zI least), .int (zI ke)])), (eb, .inl (E.2.2.2.2, 33, .inr (.inr (.inr (.inr bh))))), (pp, .inr (3, [.ref po, .ref pi])), cP po qpo (hi xx), aP E qpo xx, cP pi qpi (hi yy), aP E qpi yy]) rfl rfl rfl ?_
        rw [show nm yy x9 = yy n2 by rw [show x9 = (n2 : Int) by omega, nm_nat]]
        refine g_istore C_o [(4, .int (zI ((yy n2).val : Int))), (3, .int (zI x9)), (0, .ref he), (1, .ref pp)] dX1_lower_32 (by decide) rfl ?_
        refine g_iload C_o dX1_lower_34 0 rfl ?_
        refine g_if_eq C_o 89 dX1_lower_36 (by decide) (by omega) (by omega) (fun c_36 => ?_) (fun c_36 => ?_)
        · refine g_iinc C_o [(3, .int (zI (x9 + (-1)))), (4, .int (zI ((yy n2).val : Int))), (0, .ref he), (1, .ref pp)] dX1_lower_89 1 rfl (by decide) rfl ?_
          refine g_goto C_o 20 dX1_lower_92 (by decide) ?_
          refine g_lsub C_o [0, 2, 3] rfl ?_
          refine back_o _ _ _ _ _ _ ?_
          exact ih_o (x9 + -1) n2 yy xx (by omega) (by omega) (by rw [← hl, low_0 (fq0 c_36)]) hSy hSx (by omega)
        · refine g_aload_n C_o dX1_lower_39 2 rfl ?_
          refine g_get C_o 0 rfl rfl 1 (by decide) in_X1_lower_X1 lk_X1_lower_byHighest rfl dX1_lower_40 ?_
          refine g_iload_n C_o dX1_lower_43 1 rfl ?_
          rcases hkx : kx n2 with _ | j
          · have e0 : (yy, xx) = lowr kx o i y x := by rw [← hl, low_n (fqn c_36) hkx]
            refine g_aald C_o 1 n2 rfl (by omega) (by omega) (by decide) dX1_lower_44 .null (by rw [hbh n2 (by omega), hkx]; rfl) ?_
            refine g_astoreN C_o [(5, .null), (4, .int (zI ((yy n2).val : Int))), (3, .int (zI x9)), (0, .ref he), (1, .ref pp)] dX1_lower_45 (by decide) rfl ?_
            refine g_aloadN C_o dX1_lower_47 0 rfl ?_
            refine g_ifnonnullN C_o dX1_lower_49 ?_
            refine back_o _ _ _ _ _ _ ?_
            have e1 : yy = (lowr kx o i y x).1 := congrArg Prod.fst e0
            have e2 : xx = (lowr kx o i y x).2 := congrArg Prod.snd e0
            exact hret _ _ _ _ _ dX1_lower_52 (by decide) (by decide) (by rw [e1, e2])
          · obtain ⟨p1, p2, p3, p4, p5, hF⟩ : ∃ p1 p2 p3 p4 p5, F j = (p1, p2, p3, p4, p5) := ⟨_, _, _, _, _, rfl⟩
            have hkj := hkp n2 (by omega) j hkx
            refine g_aald C_o 1 n2 rfl (by omega) (by omega) (by decide) dX1_lower_44 (.ref p1) (by rw [hbh n2 (by omega), hkx]; show va_rf (some (F j).1) = _; rw [hF]; rfl) ?_
            refine g_astore C_o [(5, .ref p1), (4, .int (zI ((yy n2).val : Int))), (3, .int (zI x9)), (0, .ref he), (1, .ref pp)] dX1_lower_45 (by decide) rfl ?_
            refine g_aload C_o dX1_lower_47 0 rfl ?_
            refine g_ifnonnull C_o 53 dX1_lower_49 (by decide) ?_
            refine back_o _ _ _ _ _ _ ?_
            refine g_perm C (fam_in hkj.1 hF) ?_
            refine g_in C (fun G3 C3 back3 => ?_)
            refine g_eq (ws' := [(he, .inr (1, [.ref ep, .ref eb, .ref er, .ref bb, .ref tg, .ref pa, .int (zI least), .int (zI ke)])), (eb, .inl (E.2.2.2.2, 33, .inr (.inr (.inr (.inr bh))))), (pp, .inr (3, [.ref po, .ref pi])), cP po qpo (hi xx), aP E qpo xx, cP pi qpi (hi yy), aP E qpi yy, (p1, .inr (3, [.ref p2, .ref p4])), cP p2 p3 (hi (o j)), aP E p3 (o j), cP p4 p5 (hi (i j)), aP E p5 (i j)]) rfl rfl rfl ?_
            refine g_aload_n C3 dX1_lower_53 4 rfl ?_
            refine g_get C3 2 rfl rfl 1 (by decide) in_X1_lower_X3 lk_X1_lower_image rfl dX1_lower_54 ?_
            refine g_iload C3 dX1_lower_57 1 rfl ?_
            refine g_callSNi (n := 1) C3 (c_X7_negative E l (yy n2)) (by decide +kernel) gX1_lower_X7_negative_n119 (by decide +kernel) rfl (by decide +kernel) rfl (by decide) dX1_lower_59 rfl (Nat.le_of_ble_eq_true rfl) (fun r_59 h_59 => ?_)
            obtain ⟨_, rfl, -⟩ := h_59
            refine g_aload C3 dX1_lower_62 0 rfl ?_
            refine g_get C3 7 rfl rfl 1 (by decide) in_X1_lower_X3 lk_X1_lower_image rfl dX1_lower_64 ?_
            refine g_iconst C3 dX1_lower_67 ?_
            refine g_callV (n := 3) (wr := [(he, .inr (1, [.ref ep, .ref eb, .ref er, .ref bb, .ref tg, .ref pa, .int (zI least), .int (zI ke)])), (eb, .inl (E.2.2.2.2, 33, .inr (.inr (.inr (.inr bh))))), (pp, .inr (3, [.ref po, .ref pi])), cP po qpo (hi xx), aP E qpo xx, (p1, .inr (3, [.ref p2, .ref p4])), cP p2 p3 (hi (o j)), aP E p3 (o j)]) C3 (c_X4_addMultiple E l pi qpi p4 p5 yy (i j) (-(yy n2)) 0 hSy hkj.2.2.2.1 (by omega)) gX1_lower_X4_addMultiple rfl (by decide +kernel) rfl (by decide) dX1_lower_68 rfl (Nat.le_of_ble_eq_true rfl) rfl rfl [5, 6, 10, 11] [0, 1, 2, 3, 4, 7, 8, 9] rfl rfl (by decide) (fun w_68 h_68 => ?_)
            obtain rfl := h_68
            refine g_eq (ws' := [(he, .inr (1, [.ref ep, .ref eb, .ref er, .ref bb, .ref tg, .ref pa, .int (zI least), .int (zI ke)])), (eb, .inl (E.2.2.2.2, 33, .inr (.inr (.inr (.inr bh))))), (pp, .inr (3, [.ref po, .ref pi])), cP po qpo (hi xx), aP E qpo xx, (p1, .inr (3, [.ref p2, .ref p4])), cP p2 p3 (hi (o j)), aP E p3 (o j), cP pi qpi (hi (am yy (-(yy n2)) (i j) 0)), aP E qpi (am yy (-(yy n2)) (i j) 0), cP p4 p5 (hi (i j)), aP E p5 (i j)]) rfl rfl rfl ?_
            refine g_aload_n C3 dX1_lower_71 4 rfl ?_
            refine g_get C3 2 rfl rfl 0 (by decide) in_X1_lower_X3 lk_X1_lower_origin rfl dX1_lower_72 ?_
            refine g_iload C3 dX1_lower_75 1 rfl ?_
            refine g_callSNi (n := 1) C3 (c_X7_negative E l (yy n2)) (by decide +kernel) gX1_lower_X7_negative_n119 (by decide +kernel) rfl (by decide +kernel) rfl (by decide) dX1_lower_77 rfl (Nat.le_of_ble_eq_true rfl) (fun r_77 h_77 => ?_)
            obtain ⟨_, rfl, -⟩ := h_77
            refine g_aload C3 dX1_lower_80 0 rfl ?_
            refine g_get C3 5 rfl rfl 0 (by decide) in_X1_lower_X3 lk_X1_lower_origin rfl dX1_lower_82 ?_
            refine g_iconst C3 dX1_lower_85 ?_
            refine g_callV (n := 3) (wr := [(he, .inr (1, [.ref ep, .ref eb, .ref er, .ref bb, .ref tg, .ref pa, .int (zI least), .int (zI ke)])), (eb, .inl (E.2.2.2.2, 33, .inr (.inr (.inr (.inr bh))))), (pp, .inr (3, [.ref po, .ref pi])), (p1, .inr (3, [.ref p2, .ref p4])), cP pi qpi (hi (am yy (-(yy n2)) (i j) 0)), aP E qpi (am yy (-(yy n2)) (i j) 0), cP p4 p5 (hi (i j)), aP E p5 (i j)]) C3 (c_X4_addMultiple E l po qpo p2 p3 xx (o j) (-(yy n2)) 0 hSx hkj.2.2.2.2 (by have := hi_lo (o j); omega)) gX1_lower_X4_addMultiple rfl (by decide +kernel) rfl (by decide) dX1_lower_86 rfl (Nat.le_of_ble_eq_true rfl) rfl rfl [3, 4, 6, 7] [0, 1, 2, 5, 8, 9, 10, 11] rfl rfl (by decide) (fun w_86 h_86 => ?_)
            obtain rfl := h_86
            refine g_eq (ws' := [(he, .inr (1, [.ref ep, .ref eb, .ref er, .ref bb, .ref tg, .ref pa, .int (zI least), .int (zI ke)])), (eb, .inl (E.2.2.2.2, 33, .inr (.inr (.inr (.inr bh))))), (pp, .inr (3, [.ref po, .ref pi])), (p1, .inr (3, [.ref p2, .ref p4])), cP pi qpi (hi (am yy (-(yy n2)) (i j) 0)), aP E qpi (am yy (-(yy n2)) (i j) 0), cP p4 p5 (hi (i j)), aP E p5 (i j), cP po qpo (hi (am xx (-(yy n2)) (o j) 0)), aP E qpo (am xx (-(yy n2)) (o j) 0), cP p2 p3 (hi (o j)), aP E p3 (o j)]) rfl rfl rfl ?_
            refine g_iinc C3 [(3, .int (zI (x9 + (-1)))), (5, .ref p1), (4, .int (zI ((yy n2).val : Int))), (0, .ref he), (1, .ref pp)] dX1_lower_89 2 rfl (by decide) rfl ?_
            refine g_goto C3 20 dX1_lower_92 (by decide) ?_
            refine g_lsub C3 [0, 3, 4] rfl ?_
            refine g_wsub (ws' := [(he, .inr (1, [.ref ep, .ref eb, .ref er, .ref bb, .ref tg, .ref pa, .int (zI least), .int (zI ke)])), (eb, .inl (E.2.2.2.2, 33, .inr (.inr (.inr (.inr bh))))), (pp, .inr (3, [.ref po, .ref pi])), cP po qpo (hi (am xx (-(yy n2)) (o j) 0)), aP E qpo (am xx (-(yy n2)) (o j) 0), cP pi qpi (hi (am yy (-(yy n2)) (i j) 0)), aP E qpi (am yy (-(yy n2)) (i j) 0), (p1, .inr (3, [.ref p2, .ref p4])), cP p2 p3 (hi (o j)), aP E p3 (o j), cP p4 p5 (hi (i j)), aP E p5 (i j)]) C3 [0, 1, 2, 8, 9, 4, 5, 3, 10, 11, 6, 7] (by decide) rfl rfl ?_
            refine g_eq (ws' := [(he, .inr (1, [.ref ep, .ref eb, .ref er, .ref bb, .ref tg, .ref pa, .int (zI least), .int (zI ke)])), (eb, .inl (E.2.2.2.2, 33, .inr (.inr (.inr (.inr bh))))), (pp, .inr (3, [.ref po, .ref pi])), cP po qpo (hi (am xx (-(yy n2)) (o j) 0)), aP E qpo (am xx (-(yy n2)) (o j) 0), cP pi qpi (hi (am yy (-(yy n2)) (i j) 0)), aP E qpi (am yy (-(yy n2)) (i j) 0)] ++ [(p1, .inr (3, [.ref p2, .ref p4])), cP p2 p3 (hi (o j)), aP E p3 (o j), cP p4 p5 (hi (i j)), aP E p5 (i j)]) rfl rfl rfl ?_
            refine back3 _ _ _ _ _ _ ?_
            refine g_perm C (fam_in hkj.1 hF).symm ?_
            exact ih_o (x9 + -1) n2 (am yy (-(yy n2)) (i j) 0) (am xx (-(yy n2)) (o j) 0) (by omega) (by omega) (by rw [← hl, low_s (fqn c_36) hkx]) (am_Sm hSy (fun j9 h9 => hkj.2.2.2.1 j9 (by omega))) (am_Sm hSx (fun j9 h9 => hkj.2.2.2.2 j9 (by omega))) (by omega)
  refine g_lsub C2 [0, 2, 3] rfl ?_
  refine back2 _ _ _ _ _ _ ?_
  exact lp_o 40 (min (hi y) (((33 : Nat) : Int) - 1)) (hi y + 1).toNat y x (by omega) (by omega) rfl hS.2 hS.1 (by omega)
