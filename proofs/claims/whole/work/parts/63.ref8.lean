theorem Gj_rw {t0 t : Po} {r K : Nat} {rw0 : Nat → Int} (h : Gj t0 t r K rw0) {c : Nat} (hc : c < K) : rw0 c = -1 ∨ (0 ≤ rw0 c ∧ rw0 c < (r : Int)) := by
  obtain ⟨-, -, cnt, -, h4, h5⟩ := h
  have hm : cnt (c + 1) ≤ r := by rw [← h4]; exact cnt_mono h5 (by omega) (Nat.le_refl K)
  rcases h5 c hc with ⟨e1, e2, e3⟩ | ⟨e1, e2, e3, e4⟩
  · exact Or.inl e1
  · right; omega
theorem in_X8_solve_X8 : ∀ w ∈ u_ws RX8 TX8 18, w ∈ wsX8_solve := by decide +kernel
theorem lk_X8_solve_table : Cond.fieldLink yX8_solve.cls 50 (TX8 15).1 (TX8 15).2.1 (TX8 15).2.2.1 ∈ wsX8_solve := by decide +kernel
theorem lk_X8_solve_row : Cond.fieldLink yX8_solve.cls 53 (TX8 16).1 (TX8 16).2.1 (TX8 16).2.2.1 ∈ wsX8_solve := by decide +kernel
theorem lk_X8_solve_answer : Cond.fieldLink yX8_solve.cls 29 (TX8 8).1 (TX8 8).2.1 (TX8 8).2.2.1 ∈ wsX8_solve := by decide +kernel
set_option maxHeartbeats 4000000 in
set_option maxRecDepth 100000 in
theorem c_X8_solve (E : ev) (l : Launch) (m : Nat → Nat) (kc le : Int) (p : Nat → Po) (d : Nat → Int) (t : Po) (rw0 : Nat → Int) (hp : RmOk p) (hR : Ra (p 1) (p 2)) : Mi E l yX8_solve wsX8_solve { frames := 4, cells := 0, slots := 0, locals := 120 } [.ref (m 0)] (rmX E m kc le p d t rw0) (fun r w => ∃ dd : Int, r = zI dd ∧ ∃ (p2 : Nat → Po) (d2 : Nat → Int) (t2 : Po) (rw2 : Nat → Int), RmOk p2 ∧ p2 1 = p 1 ∧ p2 2 = p 2 ∧ (p2 3, p2 4, p2 5) = spl (p 1) (p 2) 9 ∧ SolOk (Tc (p2 3) (p2 4)) (p2 5) dd (p2 7) ∧ w = rmX E m kc le p2 d2 t2 rw2) 0 0 := by
  refine enter_i (cc := cX8_solve) (nL := 6) (by decide) rfl (Nat.le_of_ble_eq_true rfl) (fun G C hret => ?_)
  show G 0 0 [(m 0, .inr (8, [.int (zI kc), .ref (m 1), .ref (m 2), .ref (m 3), .ref (m 4), .ref (m 5), .ref (m 6), .int (zI le), .ref (m 7), .ref (m 8), .ref (m 9), .ref (m 10), .ref (m 11), .ref (m 12), .ref (m 13), .ref (m 14), .ref (m 15), .ref (m 16)])), aJ E (m 1) (p 1), aJ E (m 2) (p 2), aJ E (m 3) (p 3), aJ E (m 4) (p 4), aJ E (m 5) (p 5), (m 6, .inl (E.2.2.1, 9, .inl (iv d))), aJ E (m 7) (p 7), aJ E (m 8) (p 8), aJ E (m 9) (p 9), aJ E (m 10) (p 10), aJ E (m 11) (p 11), aJ E (m 12) (p 12), aJ E (m 13) (p 13), (m 14, .inl (E.2.2.2.1, 1408, .inr (.inl (pL t)))), (m 15, .inl (E.2.2.1, 21, .inl (iv rw0))), (m 16, .inl (E.2.2.2.1, 61, .inr (.inl (pL (p 16)))))] [(0, .ref (m 0))] 0 []
  refine g_aload_n C dX8_solve_0 0 rfl ?_
  refine g_callV (n := 0) (wr := []) C (c_X8_findSplit E l m kc le p d t rw0 hp hR) gX8_solve_X8_findSplit rfl (by decide +kernel) rfl (by decide) dX8_solve_1 rfl (Nat.le_of_ble_eq_true rfl) rfl rfl [0, 1, 2, 3, 4, 5, 6, 7, 8, 9, 10, 11, 12, 13, 14, 15, 16] [] rfl rfl (by decide) (fun w_1 h_1 => ?_)
  obtain ⟨p2, d2, hp2, e1, e2, hs2, hd2, rfl⟩ := h_1
  refine g_eq (ws' := [(m 0, .inr (8, [.int (zI kc), .ref (m 1), .ref (m 2), .ref (m 3), .ref (m 4), .ref (m 5), .ref (m 6), .int (zI le), .ref (m 7), .ref (m 8), .ref (m 9), .ref (m 10), .ref (m 11), .ref (m 12), .ref (m 13), .ref (m 14), .ref (m 15), .ref (m 16)])), aJ E (m 1) (p2 1), aJ E (m 2) (p2 2), aJ E (m 3) (p2 3), aJ E (m 4) (p2 4), aJ E (m 5) (p2 5), (m 6, .inl (E.2.2.1, 9, .inl (iv d2))), aJ E (m 7) (p2 7), aJ E (m 8) (p2 8), aJ E (m 9) (p2 9), aJ E (m 10) (p2 10), aJ E (m 11) (p2 11), aJ E (m 12) (p2 12), aJ E (m 13) (p2 13), (m 14, .inl (E.2.2.2.1, 1408, .inr (.inl (pL t)))), (m 15, .inl (E.2.2.1, 21, .inl (iv rw0))), (m 16, .inl (E.2.2.2.1, 61, .inr (.inl (pL (p2 16)))))]) rfl rfl rfl ?_
  have okS := spl_ok hR 9 (by omega)
  rw [← hs2] at okS
  have okS : Sm (p2 3) ∧ Sm (p2 4) ∧ Sm (p2 5) ∧ 0 ≤ hi (p2 3) ∧ 0 ≤ hi (p2 4) ∧ Mo (p2 5) ∧ hi (p2 3) ≤ hi (p 1) ∧ hi (p2 4) ≤ hi (p 2) ∧ hi (p2 5) ≤ 8 * (hi (p 1) - hi (p2 3)) := okS
  have h4 : hi (p2 3) ≤ 4 ∧ hi (p2 4) ≤ 4 := by have := okS.2.2.2.2.2.2.1; have := okS.2.2.2.2.2.2.2.1; have := hp.2.1; have := hp.2.2; omega
  refine g_aload_n C dX8_solve_4 0 rfl ?_
  refine g_callV (n := 0) (wr := []) C (c_X8_fill E l m kc le p2 d2 t rw0 hp2 h4) gX8_solve_X8_fill rfl (by decide +kernel) rfl (by decide) dX8_solve_5 rfl (Nat.le_of_ble_eq_true rfl) rfl rfl [0, 1, 2, 3, 4, 5, 6, 7, 8, 9, 10, 11, 12, 13, 14, 15, 16] [] rfl rfl (by decide) (fun w_5 h_5 => ?_)
  obtain ⟨p3, t3, hp3, e3, e4, hT1, hT2, rfl⟩ := h_5
  refine g_eq (ws' := [(m 0, .inr (8, [.int (zI kc), .ref (m 1), .ref (m 2), .ref (m 3), .ref (m 4), .ref (m 5), .ref (m 6), .int (zI le), .ref (m 7), .ref (m 8), .ref (m 9), .ref (m 10), .ref (m 11), .ref (m 12), .ref (m 13), .ref (m 14), .ref (m 15), .ref (m 16)])), aJ E (m 1) (p3 1), aJ E (m 2) (p3 2), aJ E (m 3) (p3 3), aJ E (m 4) (p3 4), aJ E (m 5) (p3 5), (m 6, .inl (E.2.2.1, 9, .inl (iv d2))), aJ E (m 7) (p3 7), aJ E (m 8) (p3 8), aJ E (m 9) (p3 9), aJ E (m 10) (p3 10), aJ E (m 11) (p3 11), aJ E (m 12) (p3 12), aJ E (m 13) (p3 13), (m 14, .inl (E.2.2.2.1, 1408, .inr (.inl (pL t3)))), (m 15, .inl (E.2.2.1, 21, .inl (iv rw0))), (m 16, .inl (E.2.2.2.1, 61, .inr (.inl (pL (p3 16)))))]) rfl rfl rfl ?_
  have hTb : TbOk t3 (Tc (p3 3) (p3 4)) (p3 5) := ⟨fun i hi k hk => by rw [e4.1, e4.2.1]; exact hT1 i hi k hk, fun i hi => by rw [e4.2.2]; exact hT2 i hi, fun i hi => ⟨hp3.1 5 (by omega) i (by omega), fun k hk => Tc_Sm ⟨hp3.1 3 (by omega), hp3.1 4 (by omega)⟩ (by rw [e4.1, e4.2.1]; exact h4) hk i (by omega)⟩⟩
  refine g_iconst C dX8_solve_8 ?_
  refine g_istore_n C [(1, .int (zI 0)), (0, .ref (m 0))] dX8_solve_9 (by decide) rfl ?_
  refine g_iconst C dX8_solve_10 ?_
  refine g_istore_n C [(2, .int (zI 0)), (1, .int (zI 0)), (0, .ref (m 0))] dX8_solve_11 (by decide) rfl ?_
  have lp_o : ∀ (n_o : Nat) (x : Int) (k : Nat) (r : Nat) (t4 : Po) (rw4 : Nat → Int), (x = (k : Int)) → (k ≤ 21) → (Gj t3 t4 r k rw4) → (k = 0 ∨ ¬ inS (Tc (p3 3) (p3 4)) k (p3 5)) → 21 - k < n_o → G 0 0 [(m 0, .inr (8, [.int (zI kc), .ref (m 1), .ref (m 2), .ref (m 3), .ref (m 4), .ref (m 5), .ref (m 6), .int (zI le), .ref (m 7), .ref (m 8), .ref (m 9), .ref (m 10), .ref (m 11), .ref (m 12), .ref (m 13), .ref (m 14), .ref (m 15), .ref (m 16)])), aJ E (m 1) (p3 1), aJ E (m 2) (p3 2), aJ E (m 3) (p3 3), aJ E (m 4) (p3 4), aJ E (m 5) (p3 5), (m 6, .inl (E.2.2.1, 9, .inl (iv d2))), aJ E (m 7) (p3 7), aJ E (m 8) (p3 8), aJ E (m 9) (p3 9), aJ E (m 10) (p3 10), aJ E (m 11) (p3 11), aJ E (m 12) (p3 12), aJ E (m 13) (p3 13), (m 14, .inl (E.2.2.2.1, 1408, .inr (.inl (pL t4)))), (m 15, .inl (E.2.2.1, 21, .inl (iv rw4))), (m 16, .inl (E.2.2.2.1, 61, .inr (.inl (pL (p3 16)))))] [(2, .int (zI x)), (1, .int (zI (r : Int))), (0, .ref (m 0))] 12 [] := by
    intro n_o
    induction n_o with
    | zero =>
      intro x k r t4 rw4 hx hk hG hN hm_o
      exact absurd hm_o (by omega)
    | succ n_o ih_o =>
      intro x k r t4 rw4 hx hk hG hN hm_o
      have hrk : r ≤ k := hG.2.1
      refine g_iload_n C dX8_solve_12 0 rfl ?_
      refine g_bipush C dX8_solve_13 rfl ?_
      refine g_icmp_gt C 208 dX8_solve_15 (by decide) (by omega) (by omega) (by omega) (by omega) (fun c_15 => ?_) (fun c_15 => ?_)
      · obtain rfl : k = 21 := by omega
        refine g_iconst C dX8_solve_208 ?_
        have hso : SolOk (Tc (p3 3) (p3 4)) (p3 5) (-1) (p3 7) := Or.inl ⟨rfl, (by rcases hN with h9 | h9; (exfalso; omega); exact h9)⟩
        have hs3 : (p3 3, p3 4, p3 5) = spl (p 1) (p 2) 9 := by rw [← hs2, e4.1, e4.2.1, e4.2.2]
        exact hret _ _ _ _ _ _ dX8_solve_209 (by decide) (by decide) ⟨_, rfl, pl [zr, p3 1, p3 2, p3 3, p3 4, p3 5, zr, p3 7, p3 8, p3 9, p3 10, p3 11, p3 12, p3 13, zr, zr, p3 16], d2, _, _, ⟨pl14 (l := [zr, p3 1, p3 2, p3 3, p3 4, p3 5, zr, p3 7, p3 8, p3 9, p3 10, p3 11, p3 12, p3 13]) rfl (fm Sm_zr (fm (hp3.1 1 (by omega)) (fm (hp3.1 2 (by omega)) (fm (hp3.1 3 (by omega)) (fm (hp3.1 4 (by omega)) (fm (hp3.1 5 (by omega)) (fm Sm_zr (fm (hp3.1 7 (by omega)) (fm (hp3.1 8 (by omega)) (fm (hp3.1 9 (by omega)) (fm (hp3.1 10 (by omega)) (fm (hp3.1 11 (by omega)) (fm (hp3.1 12 (by omega)) (fm (hp3.1 13 (by omega)) fn)))))))))))))), hp3.2.1, hp3.2.2⟩, e3.1.trans e1, e3.2.trans e2, hs3, hso, rfl⟩
      · refine g_iload_n C dX8_solve_18 1 rfl ?_
        refine g_istore_n C [(3, .int (zI (r : Int))), (2, .int (zI x)), (1, .int (zI (r : Int))), (0, .ref (m 0))] dX8_solve_19 (by decide) rfl ?_
        have lp_a : ∀ (n_a : Nat) (y : Int) (a : Nat), (y = (a : Int)) → (r ≤ a) → (a ≤ 64) → (∀ i : Nat, r ≤ i → i < a → t4 (22 * i + k) = 0) → 64 - a < n_a → G 0 0 [(m 0, .inr (8, [.int (zI kc), .ref (m 1), .ref (m 2), .ref (m 3), .ref (m 4), .ref (m 5), .ref (m 6), .int (zI le), .ref (m 7), .ref (m 8), .ref (m 9), .ref (m 10), .ref (m 11), .ref (m 12), .ref (m 13), .ref (m 14), .ref (m 15), .ref (m 16)])), aJ E (m 1) (p3 1), aJ E (m 2) (p3 2), aJ E (m 3) (p3 3), aJ E (m 4) (p3 4), aJ E (m 5) (p3 5), (m 6, .inl (E.2.2.1, 9, .inl (iv d2))), aJ E (m 7) (p3 7), aJ E (m 8) (p3 8), aJ E (m 9) (p3 9), aJ E (m 10) (p3 10), aJ E (m 11) (p3 11), aJ E (m 12) (p3 12), aJ E (m 13) (p3 13), (m 14, .inl (E.2.2.2.1, 1408, .inr (.inl (pL t4)))), (m 15, .inl (E.2.2.1, 21, .inl (iv rw4))), (m 16, .inl (E.2.2.2.1, 61, .inr (.inl (pL (p3 16)))))] [(3, .int (zI y)), (2, .int (zI x)), (1, .int (zI (r : Int))), (0, .ref (m 0))] 20 [] := by
          intro n_a
          induction n_a with
          | zero =>
            intro y a hy hra ha hz hm_a
            exact absurd hm_a (by omega)
          | succ n_a ih_a =>
            intro y a hy hra ha hz hm_a
            refine g_iload_n C dX8_solve_20 0 rfl ?_
            refine g_bipush C dX8_solve_21 rfl ?_
            refine g_icmp_ge C 48 dX8_solve_23 (by decide) (by omega) (by omega) (by omega) (by omega) (fun c_23 => ?_) (fun c_23 => ?_)
            · refine g_aload_n C dX8_solve_48 3 rfl ?_
              refine g_get C 0 rfl rfl 16 (by decide) in_X8_solve_X8 lk_X8_solve_row rfl dX8_solve_49 ?_
              refine g_iload_n C dX8_solve_52 1 rfl ?_
              refine g_iload_n C dX8_solve_53 0 rfl ?_
              refine g_bipush C dX8_solve_54 rfl ?_
              refine g_icmp_ne C 63 dX8_solve_56 (by decide) (by omega) (by omega) (by omega) (by omega) (fun c_56 => by exfalso; omega) (fun c_56 => ?_)
              refine g_iconst C dX8_solve_59 ?_
              refine g_goto C 64 dX8_solve_60 (by decide) ?_
              refine g_iastZ C [(m 0, .inr (8, [.int (zI kc), .ref (m 1), .ref (m 2), .ref (m 3), .ref (m 4), .ref (m 5), .ref (m 6), .int (zI le), .ref (m 7), .ref (m 8), .ref (m 9), .ref (m 10), .ref (m 11), .ref (m 12), .ref (m 13), .ref (m 14), .ref (m 15), .ref (m 16)])), aJ E (m 1) (p3 1), aJ E (m 2) (p3 2), aJ E (m 3) (p3 3), aJ E (m 4) (p3 4), aJ E (m 5) (p3 5), (m 6, .inl (E.2.2.1, 9, .inl (iv d2))), aJ E (m 7) (p3 7), aJ E (m 8) (p3 8), aJ E (m 9) (p3 9), aJ E (m 10) (p3 10), aJ E (m 11) (p3 11), aJ E (m 12) (p3 12), aJ E (m 13) (p3 13), (m 14, .inl (E.2.2.2.1, 1408, .inr (.inl (pL t4)))), (m 15, .inl (E.2.2.1, 21, .inl (iv (cset rw4 k (-1))))), (m 16, .inl (E.2.2.2.1, 61, .inr (.inl (pL (p3 16)))))] 15 k rfl (by omega) (by omega) (by decide) dX8_solve_64 rfl ?_
              refine g_iload_n C dX8_solve_65 0 rfl ?_
              refine g_bipush C dX8_solve_66 rfl ?_
              refine g_icmp_ge C 81 dX8_solve_68 (by decide) (by omega) (by omega) (by omega) (by omega) (fun c_68 => ?_) (fun c_68 => by exfalso; omega)
              obtain ⟨r2, t5, rw5, hr2, ht5, hrw5⟩ : ∃ (r2 : Nat) (t5 : Po) (rw5 : Nat → Int), r2 = r ∧ t5 = t4 ∧ rw5 = cset rw4 k (-1) := ⟨_, _, _, rfl, rfl, rfl⟩
              have hG2 : Gj t3 t5 r2 (k + 1) rw5 := by rw [hr2, ht5, hrw5]; exact Gj_free hG (fun i h1 h2 => hz i h1 (by omega))
              have hr3 : (r : Int) = (r2 : Int) := by omega
              have hr21 : r2 ≤ k + 1 := hG2.2.1
              refine g_eq (ws' := [(m 0, .inr (8, [.int (zI kc), .ref (m 1), .ref (m 2), .ref (m 3), .ref (m 4), .ref (m 5), .ref (m 6), .int (zI le), .ref (m 7), .ref (m 8), .ref (m 9), .ref (m 10), .ref (m 11), .ref (m 12), .ref (m 13), .ref (m 14), .ref (m 15), .ref (m 16)])), aJ E (m 1) (p3 1), aJ E (m 2) (p3 2), aJ E (m 3) (p3 3), aJ E (m 4) (p3 4), aJ E (m 5) (p3 5), (m 6, .inl (E.2.2.1, 9, .inl (iv d2))), aJ E (m 7) (p3 7), aJ E (m 8) (p3 8), aJ E (m 9) (p3 9), aJ E (m 10) (p3 10), aJ E (m 11) (p3 11), aJ E (m 12) (p3 12), aJ E (m 13) (p3 13), (m 14, .inl (E.2.2.2.1, 1408, .inr (.inl (pL t5)))), (m 15, .inl (E.2.2.1, 21, .inl (iv rw5))), (m 16, .inl (E.2.2.2.1, 61, .inr (.inl (pL (p3 16)))))]) (lv' := [(3, .int (zI y)), (2, .int (zI x)), (1, .int (zI (r2 : Int))), (0, .ref (m 0))]) (by rw [ht5, hrw5]) (by rw [hr3]) rfl ?_
              refine g_iconst C dX8_solve_81 ?_
              refine g_istore C [(4, .int (zI 1)), (3, .int (zI y)), (2, .int (zI x)), (1, .int (zI (r2 : Int))), (0, .ref (m 0))] dX8_solve_82 (by decide) rfl ?_
              refine g_iload_n C dX8_solve_84 3 rfl ?_
              refine g_istore C [(5, .int (zI (r2 : Int))), (4, .int (zI 1)), (3, .int (zI y)), (2, .int (zI x)), (1, .int (zI (r2 : Int))), (0, .ref (m 0))] dX8_solve_85 (by decide) rfl ?_
              have lp_m : ∀ (n_m : Nat) (y : Int) (i : Nat) (b : Int), (y = (i : Int)) → (r2 ≤ i ∧ i ≤ 64) → ((b = 1 ∧ ∀ i9 : Nat, r2 ≤ i9 → i9 < i → t5 (22 * i9 + 21) = 0) ∨ (b = 0 ∧ ∃ i9 : Nat, r2 ≤ i9 ∧ i9 < i ∧ t5 (22 * i9 + 21) ≠ 0)) → 64 - i < n_m → G 0 0 [(m 0, .inr (8, [.int (zI kc), .ref (m 1), .ref (m 2), .ref (m 3), .ref (m 4), .ref (m 5), .ref (m 6), .int (zI le), .ref (m 7), .ref (m 8), .ref (m 9), .ref (m 10), .ref (m 11), .ref (m 12), .ref (m 13), .ref (m 14), .ref (m 15), .ref (m 16)])), aJ E (m 1) (p3 1), aJ E (m 2) (p3 2), aJ E (m 3) (p3 3), aJ E (m 4) (p3 4), aJ E (m 5) (p3 5), (m 6, .inl (E.2.2.1, 9, .inl (iv d2))), aJ E (m 7) (p3 7), aJ E (m 8) (p3 8), aJ E (m 9) (p3 9), aJ E (m 10) (p3 10), aJ E (m 11) (p3 11), aJ E (m 12) (p3 12), aJ E (m 13) (p3 13), (m 14, .inl (E.2.2.2.1, 1408, .inr (.inl (pL t5)))), (m 15, .inl (E.2.2.1, 21, .inl (iv rw5))), (m 16, .inl (E.2.2.2.1, 61, .inr (.inl (pL (p3 16)))))] [(5, .int (zI y)), (4, .int (zI b)), (2, .int (zI x)), (1, .int (zI (r2 : Int))), (0, .ref (m 0))] 87 [] := by
                intro n_m
                induction n_m with
                | zero =>
                  intro y i b hy hi9 hb hm_m
                  exact absurd hm_m (by omega)
                | succ n_m ih_m =>
                  intro y i b hy hi9 hb hm_m
                  refine g_iload C dX8_solve_87 0 rfl ?_
                  refine g_bipush C dX8_solve_89 rfl ?_
                  refine g_icmp_ge C 130 dX8_solve_91 (by decide) (by omega) (by omega) (by omega) (by omega) (fun c_91 => ?_) (fun c_91 => ?_)
                  · refine g_iload C dX8_solve_130 1 rfl ?_
                    refine g_if_ne C 138 dX8_solve_132 (by decide) (by omega) (by omega) (fun c_132 => ?_) (fun c_132 => ?_)
                    · have hzz : ∀ i9 : Nat, r2 ≤ i9 → i9 < 64 → t5 (22 * i9 + 21) = 0 := by rcases hb with ⟨h9, h8⟩ | ⟨h9, -⟩; (exact fun i9 h1 h2 => h8 i9 h1 (by omega)); exact absurd h9 c_132
                      refine g_aload_n C dX8_solve_138 4 rfl ?_
                      refine g_get C 0 rfl rfl 8 (by decide) in_X8_solve_X8 lk_X8_solve_answer rfl dX8_solve_139 ?_
                      refine g_callSCv (n := 1) (wr := [(m 0, .inr (8, [.int (zI kc), .ref (m 1), .ref (m 2), .ref (m 3), .ref (m 4), .ref (m 5), .ref (m 6), .int (zI le), .ref (m 7), .ref (m 8), .ref (m 9), .ref (m 10), .ref (m 11), .ref (m 12), .ref (m 13), .ref (m 14), .ref (m 15), .ref (m 16)])), aJ E (m 1) (p3 1), aJ E (m 2) (p3 2), aJ E (m 3) (p3 3), aJ E (m 4) (p3 4), aJ E (m 5) (p3 5), (m 6, .inl (E.2.2.1, 9, .inl (iv d2))), aJ E (m 8) (p3 8), aJ E (m 9) (p3 9), aJ E (m 10) (p3 10), aJ E (m 11) (p3 11), aJ E (m 12) (p3 12), aJ E (m 13) (p3 13), (m 14, .inl (E.2.2.2.1, 1408, .inr (.inl (pL t5)))), (m 15, .inl (E.2.2.1, 21, .inl (iv rw5))), (m 16, .inl (E.2.2.2.1, 61, .inr (.inl (pL (p3 16)))))]) C (c_X8_empty E l (m 7) (p3 7) (hp3.1 7 (by omega))) gX8_solve_X8_empty rfl (by decide +kernel) rfl (by decide) dX8_solve_142 rfl (Nat.le_of_ble_eq_true rfl) [7] [0, 1, 2, 3, 4, 5, 6, 8, 9, 10, 11, 12, 13, 14, 15, 16] rfl rfl (by decide) (fun w_142 h_142 => ?_)
                      obtain rfl := h_142
                      refine g_eq (ws' := [(m 0, .inr (8, [.int (zI kc), .ref (m 1), .ref (m 2), .ref (m 3), .ref (m 4), .ref (m 5), .ref (m 6), .int (zI le), .ref (m 7), .ref (m 8), .ref (m 9), .ref (m 10), .ref (m 11), .ref (m 12), .ref (m 13), .ref (m 14), .ref (m 15), .ref (m 16)])), aJ E (m 1) (p3 1), aJ E (m 2) (p3 2), aJ E (m 3) (p3 3), aJ E (m 4) (p3 4), aJ E (m 5) (p3 5), (m 6, .inl (E.2.2.1, 9, .inl (iv d2))), aJ E (m 8) (p3 8), aJ E (m 9) (p3 9), aJ E (m 10) (p3 10), aJ E (m 11) (p3 11), aJ E (m 12) (p3 12), aJ E (m 13) (p3 13), (m 14, .inl (E.2.2.2.1, 1408, .inr (.inl (pL t5)))), (m 15, .inl (E.2.2.1, 21, .inl (iv rw5))), (m 16, .inl (E.2.2.2.1, 61, .inr (.inl (pL (p3 16))))), aJ E (m 7) zr]) rfl rfl rfl ?_
                      refine g_iconst C dX8_solve_145 ?_
                      refine g_istore C [(5, .int (zI 0)), (4, .int (zI b)), (2, .int (zI x)), (1, .int (zI (r2 : Int))), (0, .ref (m 0))] dX8_solve_146 (by decide) rfl ?_
                      have lp_n : ∀ (n_n : Nat) (y6 : Int) (i6 : Nat) (an : Po), (y6 = (i6 : Int)) → (i6 ≤ k + 1) → (∀ j : Nat, an j = if j < i6 then (if rw5 j = -1 then 0 else t5 (22 * (rw5 j).toNat + 21)) else 0) → 21 - i6 < n_n → G 0 0 [(m 0, .inr (8, [.int (zI kc), .ref (m 1), .ref (m 2), .ref (m 3), .ref (m 4), .ref (m 5), .ref (m 6), .int (zI le), .ref (m 7), .ref (m 8), .ref (m 9), .ref (m 10), .ref (m 11), .ref (m 12), .ref (m 13), .ref (m 14), .ref (m 15), .ref (m 16)])), aJ E (m 1) (p3 1), aJ E (m 2) (p3 2), aJ E (m 3) (p3 3), aJ E (m 4) (p3 4), aJ E (m 5) (p3 5), (m 6, .inl (E.2.2.1, 9, .inl (iv d2))), aJ E (m 7) an, aJ E (m 8) (p3 8), aJ E (m 9) (p3 9), aJ E (m 10) (p3 10), aJ E (m 11) (p3 11), aJ E (m 12) (p3 12), aJ E (m 13) (p3 13), (m 14, .inl (E.2.2.2.1, 1408, .inr (.inl (pL t5)))), (m 15, .inl (E.2.2.1, 21, .inl (iv rw5))), (m 16, .inl (E.2.2.2.1, 61, .inr (.inl (pL (p3 16)))))] [(5, .int (zI y6)), (2, .int (zI x)), (1, .int (zI (r2 : Int))), (0, .ref (m 0))] 148 [] := by
                        intro n_n
                        induction n_n with
                        | zero =>
                          intro y6 i6 an hy6 hi6 han hm_n
                          exact absurd hm_n (by omega)
                        | succ n_n ih_n =>
                          intro y6 i6 an hy6 hi6 han hm_n
                          refine g_iload C dX8_solve_148 0 rfl ?_
                          refine g_iload_n C dX8_solve_150 1 rfl ?_
                          refine g_icmp_gt C 200 dX8_solve_151 (by decide) (by omega) (by omega) (by omega) (by omega) (fun c_151 => ?_) (fun c_151 => ?_)
                          · obtain rfl : i6 = k + 1 := by omega
                            refine g_iload_n C dX8_solve_200 1 rfl ?_
                            have hso : SolOk (Tc (p3 3) (p3 4)) (p3 5) x an := Or.inr ⟨k, hx, by omega, Gj_sol hG2 (by omega) hTb hzz (fun j hj => by rw [han j, if_pos (by omega)]), fun j hj => by rw [han j, if_neg (by omega)], fun j hj hin => by rw [han j, if_pos (by omega), if_pos (Gj_piv hG2 (by omega) hTb (by omega) hin)], hN⟩
                            have hs3 : (p3 3, p3 4, p3 5) = spl (p 1) (p 2) 9 := by rw [← hs2, e4.1, e4.2.1, e4.2.2]
                            exact hret _ _ _ _ _ _ dX8_solve_201 (by decide) (by decide) ⟨_, rfl, pl [zr, p3 1, p3 2, p3 3, p3 4, p3 5, zr, an, p3 8, p3 9, p3 10, p3 11, p3 12, p3 13, zr, zr, p3 16], d2, _, _, ⟨pl14 (l := [zr, p3 1, p3 2, p3 3, p3 4, p3 5, zr, an, p3 8, p3 9, p3 10, p3 11, p3 12, p3 13]) rfl (fm Sm_zr (fm (hp3.1 1 (by omega)) (fm (hp3.1 2 (by omega)) (fm (hp3.1 3 (by omega)) (fm (hp3.1 4 (by omega)) (fm (hp3.1 5 (by omega)) (fm Sm_zr (fm (fun j hj => by rw [han j, if_neg (by omega)]) (fm (hp3.1 8 (by omega)) (fm (hp3.1 9 (by omega)) (fm (hp3.1 10 (by omega)) (fm (hp3.1 11 (by omega)) (fm (hp3.1 12 (by omega)) (fm (hp3.1 13 (by omega)) fn)))))))))))))), hp3.2.1, hp3.2.2⟩, e3.1.trans e1, e3.2.trans e2, hs3, hso, rfl⟩
                          · have hrw := Gj_rw hG2 (show i6 < k + 1 by omega)
                            refine g_aload_n C dX8_solve_154 3 rfl ?_
                            refine g_get C 0 rfl rfl 8 (by decide) in_X8_solve_X8 lk_X8_solve_answer rfl dX8_solve_155 ?_
                            refine g_iload C dX8_solve_158 0 rfl ?_
                            refine g_aload_n C dX8_solve_160 3 rfl ?_
                            refine g_get C 0 rfl rfl 16 (by decide) in_X8_solve_X8 lk_X8_solve_row rfl dX8_solve_161 ?_
                            refine g_iload C dX8_solve_164 0 rfl ?_
                            refine g_ialdZ C 15 i6 rfl (by omega) (by omega) (by decide) dX8_solve_166 ?_
                            refine g_iconst C dX8_solve_167 ?_
                            refine g_icmp_ne C 175 dX8_solve_168 (by decide) (by omega) (by omega) (by omega) (by omega) (fun c_168 => ?_) (fun c_168 => ?_)
                            · refine g_aload_n C dX8_solve_175 3 rfl ?_
                              refine g_get C 0 rfl rfl 15 (by decide) in_X8_solve_X8 lk_X8_solve_table rfl dX8_solve_176 ?_
                              refine g_bipush C dX8_solve_179 rfl ?_
                              refine g_aload_n C dX8_solve_181 3 rfl ?_
                              refine g_get C 0 rfl rfl 16 (by decide) in_X8_solve_X8 lk_X8_solve_row rfl dX8_solve_182 ?_
                              refine g_iload C dX8_solve_185 0 rfl ?_
                              refine g_ialdZ C 15 i6 rfl (by omega) (by omega) (by decide) dX8_solve_187 ?_
                              refine g_imul C dX8_solve_188 ?_
                              refine g_bipush C dX8_solve_189 rfl ?_
                              refine g_iadd C dX8_solve_191 ?_
                              refine g_lald C 14 (22 * (rw5 i6).toNat + 21) rfl (by omega) (by omega) (by decide) dX8_solve_192 ?_
                              refine g_last C [(m 0, .inr (8, [.int (zI kc), .ref (m 1), .ref (m 2), .ref (m 3), .ref (m 4), .ref (m 5), .ref (m 6), .int (zI le), .ref (m 7), .ref (m 8), .ref (m 9), .ref (m 10), .ref (m 11), .ref (m 12), .ref (m 13), .ref (m 14), .ref (m 15), .ref (m 16)])), aJ E (m 1) (p3 1), aJ E (m 2) (p3 2), aJ E (m 3) (p3 3), aJ E (m 4) (p3 4), aJ E (m 5) (p3 5), (m 6, .inl (E.2.2.1, 9, .inl (iv d2))), aJ E (m 7) (cset an i6 (t5 (22 * (rw5 i6).toNat + 21))), aJ E (m 8) (p3 8), aJ E (m 9) (p3 9), aJ E (m 10) (p3 10), aJ E (m 11) (p3 11), aJ E (m 12) (p3 12), aJ E (m 13) (p3 13), (m 14, .inl (E.2.2.2.1, 1408, .inr (.inl (pL t5)))), (m 15, .inl (E.2.2.1, 21, .inl (iv rw5))), (m 16, .inl (E.2.2.2.1, 61, .inr (.inl (pL (p3 16)))))] 7 i6 (t5 (22 * (rw5 i6).toNat + 21)) rfl (by omega) (by omega) (by decide) (rfl) dX8_solve_193 rfl ?_
                              refine g_iinc C [(5, .int (zI (y6 + 1))), (2, .int (zI x)), (1, .int (zI (r2 : Int))), (0, .ref (m 0))] dX8_solve_194 0 rfl (by decide) rfl ?_
                              refine g_goto C 148 dX8_solve_197 (by decide) ?_
                              exact ih_n (y6 + 1) (i6 + 1) _ (by omega) (by omega) (cp_next (a := fun _ => 0) (b := fun j => if rw5 j = -1 then 0 else t5 (22 * (rw5 j).toNat + 21)) han (by show _ = (if rw5 i6 = -1 then 0 else t5 (22 * (rw5 i6).toNat + 21)); first | rw [if_pos c_168] | rw [if_neg c_168])) (by omega)
                            · refine g_lconst C dX8_solve_171 ?_
                              refine g_goto C 193 dX8_solve_172 (by decide) ?_
                              refine g_last C [(m 0, .inr (8, [.int (zI kc), .ref (m 1), .ref (m 2), .ref (m 3), .ref (m 4), .ref (m 5), .ref (m 6), .int (zI le), .ref (m 7), .ref (m 8), .ref (m 9), .ref (m 10), .ref (m 11), .ref (m 12), .ref (m 13), .ref (m 14), .ref (m 15), .ref (m 16)])), aJ E (m 1) (p3 1), aJ E (m 2) (p3 2), aJ E (m 3) (p3 3), aJ E (m 4) (p3 4), aJ E (m 5) (p3 5), (m 6, .inl (E.2.2.1, 9, .inl (iv d2))), aJ E (m 7) (cset an i6 0), aJ E (m 8) (p3 8), aJ E (m 9) (p3 9), aJ E (m 10) (p3 10), aJ E (m 11) (p3 11), aJ E (m 12) (p3 12), aJ E (m 13) (p3 13), (m 14, .inl (E.2.2.2.1, 1408, .inr (.inl (pL t5)))), (m 15, .inl (E.2.2.1, 21, .inl (iv rw5))), (m 16, .inl (E.2.2.2.1, 61, .inr (.inl (pL (p3 16)))))] 7 i6 0 rfl (by omega) (by omega) (by decide) (by decide) dX8_solve_193 rfl ?_
                              refine g_iinc C [(5, .int (zI (y6 + 1))), (2, .int (zI x)), (1, .int (zI (r2 : Int))), (0, .ref (m 0))] dX8_solve_194 0 rfl (by decide) rfl ?_
                              refine g_goto C 148 dX8_solve_197 (by decide) ?_
                              exact ih_n (y6 + 1) (i6 + 1) _ (by omega) (by omega) (cp_next (a := fun _ => 0) (b := fun j => if rw5 j = -1 then 0 else t5 (22 * (rw5 j).toNat + 21)) han (by show _ = (if rw5 i6 = -1 then 0 else t5 (22 * (rw5 i6).toNat + 21)); first | rw [if_pos c_168] | rw [if_neg c_168])) (by omega)
                      refine g_lsub C [0, 2, 3, 4] rfl ?_
                      refine g_wsub (ws' := [(m 0, .inr (8, [.int (zI kc), .ref (m 1), .ref (m 2), .ref (m 3), .ref (m 4), .ref (m 5), .ref (m 6), .int (zI le), .ref (m 7), .ref (m 8), .ref (m 9), .ref (m 10), .ref (m 11), .ref (m 12), .ref (m 13), .ref (m 14), .ref (m 15), .ref (m 16)])), aJ E (m 1) (p3 1), aJ E (m 2) (p3 2), aJ E (m 3) (p3 3), aJ E (m 4) (p3 4), aJ E (m 5) (p3 5), (m 6, .inl (E.2.2.1, 9, .inl (iv d2))), aJ E (m 7) zr, aJ E (m 8) (p3 8), aJ E (m 9) (p3 9), aJ E (m 10) (p3 10), aJ E (m 11) (p3 11), aJ E (m 12) (p3 12), aJ E (m 13) (p3 13), (m 14, .inl (E.2.2.2.1, 1408, .inr (.inl (pL t5)))), (m 15, .inl (E.2.2.1, 21, .inl (iv rw5))), (m 16, .inl (E.2.2.2.1, 61, .inr (.inl (pL (p3 16)))))]) C [0, 1, 2, 3, 4, 5, 6, 16, 7, 8, 9, 10, 11, 12, 13, 14, 15] (by decide) rfl rfl ?_
                      exact lp_n 65 0 0 zr rfl (by omega) (fun j => by rw [if_neg (by omega)]; rfl) (by omega)
                    · refine g_goto C 202 dX8_solve_135 (by decide) ?_
                      refine g_iinc C [(2, .int (zI (x + 1))), (5, .int (zI y)), (4, .int (zI b)), (1, .int (zI (r2 : Int))), (0, .ref (m 0))] dX8_solve_202 2 rfl (by decide) rfl ?_
                      refine g_goto C 12 dX8_solve_205 (by decide) ?_
                      refine g_lsub C [0, 3, 4] rfl ?_
                      exact ih_o (x + 1) (k + 1) r2 t5 rw5 (by omega) (by omega) hG2 (Or.inr (by rcases hb with ⟨h9, -⟩ | ⟨h9, i9, h7, h8, h6⟩; (exfalso; omega); exact fun h5 => h6 (Gj_in hG2 (by omega) hTb h5 h7 (by omega)))) (by omega)
                  · refine g_iload C dX8_solve_94 1 rfl ?_
                    refine g_if_eq C 121 dX8_solve_96 (by decide) (by omega) (by omega) (fun c_96 => ?_) (fun c_96 => ?_)
                    · refine g_iconst C dX8_solve_121 ?_
                      refine g_istore C [(4, .int (zI 0)), (5, .int (zI y)), (2, .int (zI x)), (1, .int (zI (r2 : Int))), (0, .ref (m 0))] dX8_solve_122 (by decide) rfl ?_
                      refine g_iinc C [(5, .int (zI (y + 1))), (4, .int (zI 0)), (2, .int (zI x)), (1, .int (zI (r2 : Int))), (0, .ref (m 0))] dX8_solve_124 1 rfl (by decide) rfl ?_
                      refine g_goto C 87 dX8_solve_127 (by decide) ?_
                      exact ih_m (y + 1) (i + 1) 0 (by omega) (by omega) (by first | exact Or.inr ⟨rfl, i, by omega, by omega, fqn c_113⟩ | (rcases hb with h9 | ⟨h9, i9, h7, h8, h6⟩; (exact absurd h9.1 (by omega)); exact Or.inr ⟨rfl, i9, h7, by omega, h6⟩)) (by omega)
                    · refine g_aload_n C dX8_solve_99 4 rfl ?_
                      refine g_get C 0 rfl rfl 15 (by decide) in_X8_solve_X8 lk_X8_solve_table rfl dX8_solve_100 ?_
                      refine g_bipush C dX8_solve_103 rfl ?_
                      refine g_iload C dX8_solve_105 0 rfl ?_
                      refine g_imul C dX8_solve_107 ?_
                      refine g_bipush C dX8_solve_108 rfl ?_
                      refine g_iadd C dX8_solve_110 ?_
                      refine g_lald C 14 (22 * i + 21) rfl (by omega) (by omega) (by decide) dX8_solve_111 ?_
                      refine g_lconst C dX8_solve_112 ?_
                      refine g_lcmp_ne C 121 dX8_solve_113 dX8_solve_114 (by decide) (by have := (t5 (22 * i + 21)).isLt; omega) (by have := (t5 (22 * i + 21)).isLt; omega) (by have := (t5 (22 * i + 21)).isLt; omega) (by have := (t5 (22 * i + 21)).isLt; omega) (fun c_113 => ?_) (fun c_113 => ?_)
                      · refine g_iconst C dX8_solve_121 ?_
                        refine g_istore C [(4, .int (zI 0)), (5, .int (zI y)), (2, .int (zI x)), (1, .int (zI (r2 : Int))), (0, .ref (m 0))] dX8_solve_122 (by decide) rfl ?_
                        refine g_iinc C [(5, .int (zI (y + 1))), (4, .int (zI 0)), (2, .int (zI x)), (1, .int (zI (r2 : Int))), (0, .ref (m 0))] dX8_solve_124 1 rfl (by decide) rfl ?_
                        refine g_goto C 87 dX8_solve_127 (by decide) ?_
                        exact ih_m (y + 1) (i + 1) 0 (by omega) (by omega) (by first | exact Or.inr ⟨rfl, i, by omega, by omega, fqn c_113⟩ | (rcases hb with h9 | ⟨h9, i9, h7, h8, h6⟩; (exact absurd h9.1 (by omega)); exact Or.inr ⟨rfl, i9, h7, by omega, h6⟩)) (by omega)
                      · refine g_iconst C dX8_solve_117 ?_
                        refine g_goto C 122 dX8_solve_118 (by decide) ?_
                        refine g_istore C [(4, .int (zI 1)), (5, .int (zI y)), (2, .int (zI x)), (1, .int (zI (r2 : Int))), (0, .ref (m 0))] dX8_solve_122 (by decide) rfl ?_
                        refine g_iinc C [(5, .int (zI (y + 1))), (4, .int (zI 1)), (2, .int (zI x)), (1, .int (zI (r2 : Int))), (0, .ref (m 0))] dX8_solve_124 1 rfl (by decide) rfl ?_
                        refine g_goto C 87 dX8_solve_127 (by decide) ?_
                        exact ih_m (y + 1) (i + 1) 1 (by omega) (by omega) (by rcases hb with ⟨h9, h8⟩ | ⟨h9, -⟩; (exact Or.inl ⟨rfl, fun i9 h1 h2 => by by_cases g : i9 = i; (rw [g]; exact fq0 c_113); exact h8 i9 h1 (by omega)⟩); exact absurd h9 c_96) (by omega)
              refine g_lsub C [0, 1, 3, 4, 5] rfl ?_
              exact lp_m 65 (r2 : Int) r2 1 rfl ⟨by omega, by omega⟩ (Or.inl ⟨rfl, fun i9 h1 h2 => absurd h1 (by omega)⟩) (by omega)
            · refine g_aload_n C dX8_solve_26 3 rfl ?_
              refine g_get C 0 rfl rfl 15 (by decide) in_X8_solve_X8 lk_X8_solve_table rfl dX8_solve_27 ?_
              refine g_bipush C dX8_solve_30 rfl ?_
              refine g_iload_n C dX8_solve_32 0 rfl ?_
              refine g_imul C dX8_solve_33 ?_
              refine g_iload_n C dX8_solve_34 1 rfl ?_
              refine g_iadd C dX8_solve_35 ?_
              refine g_lald C 14 (22 * a + k) rfl (by omega) (by omega) (by decide) dX8_solve_36 ?_
              refine g_lconst C dX8_solve_37 ?_
              refine g_lcmp_ne C 48 dX8_solve_38 dX8_solve_39 (by decide) (by have := (t4 (22 * a + k)).isLt; omega) (by have := (t4 (22 * a + k)).isLt; omega) (by have := (t4 (22 * a + k)).isLt; omega) (by have := (t4 (22 * a + k)).isLt; omega) (fun c_38 => ?_) (fun c_38 => ?_)
              · have hne : t4 (22 * a + k) ≠ 0 := fqn c_38
                refine g_aload_n C dX8_solve_48 3 rfl ?_
                refine g_get C 0 rfl rfl 16 (by decide) in_X8_solve_X8 lk_X8_solve_row rfl dX8_solve_49 ?_
                refine g_iload_n C dX8_solve_52 1 rfl ?_
                refine g_iload_n C dX8_solve_53 0 rfl ?_
                refine g_bipush C dX8_solve_54 rfl ?_
                refine g_icmp_ne C 63 dX8_solve_56 (by decide) (by omega) (by omega) (by omega) (by omega) (fun c_56 => ?_) (fun c_56 => by exfalso; omega)
                refine g_iload_n C dX8_solve_63 2 rfl ?_
                refine g_iastZ C [(m 0, .inr (8, [.int (zI kc), .ref (m 1), .ref (m 2), .ref (m 3), .ref (m 4), .ref (m 5), .ref (m 6), .int (zI le), .ref (m 7), .ref (m 8), .ref (m 9), .ref (m 10), .ref (m 11), .ref (m 12), .ref (m 13), .ref (m 14), .ref (m 15), .ref (m 16)])), aJ E (m 1) (p3 1), aJ E (m 2) (p3 2), aJ E (m 3) (p3 3), aJ E (m 4) (p3 4), aJ E (m 5) (p3 5), (m 6, .inl (E.2.2.1, 9, .inl (iv d2))), aJ E (m 7) (p3 7), aJ E (m 8) (p3 8), aJ E (m 9) (p3 9), aJ E (m 10) (p3 10), aJ E (m 11) (p3 11), aJ E (m 12) (p3 12), aJ E (m 13) (p3 13), (m 14, .inl (E.2.2.2.1, 1408, .inr (.inl (pL t4)))), (m 15, .inl (E.2.2.1, 21, .inl (iv (cset rw4 k (r : Int))))), (m 16, .inl (E.2.2.2.1, 61, .inr (.inl (pL (p3 16)))))] 15 k rfl (by omega) (by omega) (by decide) dX8_solve_64 rfl ?_
                refine g_iload_n C dX8_solve_65 0 rfl ?_
                refine g_bipush C dX8_solve_66 rfl ?_
                refine g_icmp_ge C 81 dX8_solve_68 (by decide) (by omega) (by omega) (by omega) (by omega) (fun c_68 => by exfalso; omega) (fun c_68 => ?_)
                refine g_aload_n C dX8_solve_71 3 rfl ?_
                refine g_iload_n C dX8_solve_72 2 rfl ?_
                refine g_iload_n C dX8_solve_73 0 rfl ?_
                refine g_iload_n C dX8_solve_74 1 rfl ?_
                refine g_eq (st' := [.int (zI (k : Int)), .int (zI (a : Int)), .int (zI (r : Int)), .ref (m 0)]) rfl rfl (by rw [hy, hx]) ?_
                refine g_callV (n := 3) (wr := [aJ E (m 1) (p3 1), aJ E (m 2) (p3 2), aJ E (m 3) (p3 3), aJ E (m 4) (p3 4), aJ E (m 5) (p3 5), (m 6, .inl (E.2.2.1, 9, .inl (iv d2))), aJ E (m 7) (p3 7), aJ E (m 8) (p3 8), aJ E (m 9) (p3 9), aJ E (m 10) (p3 10), aJ E (m 11) (p3 11), aJ E (m 12) (p3 12), aJ E (m 13) (p3 13), (m 15, .inl (E.2.2.1, 21, .inl (iv (cset rw4 k (r : Int))))), (m 16, .inl (E.2.2.2.1, 61, .inr (.inl (pL (p3 16)))))]) C (c_X8_bringOut E l m kc le r a k t4 (by omega) (by omega) (by omega)) gX8_solve_X8_bringOut rfl (by decide +kernel) rfl (by decide) dX8_solve_75 rfl (Nat.le_of_ble_eq_true rfl) rfl rfl [0, 14] [1, 2, 3, 4, 5, 6, 7, 8, 9, 10, 11, 12, 13, 15, 16] rfl rfl (by decide) (fun w_75 h_75 => ?_)
                obtain rfl := h_75
                refine g_eq (ws' := [aJ E (m 1) (p3 1), aJ E (m 2) (p3 2), aJ E (m 3) (p3 3), aJ E (m 4) (p3 4), aJ E (m 5) (p3 5), (m 6, .inl (E.2.2.1, 9, .inl (iv d2))), aJ E (m 7) (p3 7), aJ E (m 8) (p3 8), aJ E (m 9) (p3 9), aJ E (m 10) (p3 10), aJ E (m 11) (p3 11), aJ E (m 12) (p3 12), aJ E (m 13) (p3 13), (m 15, .inl (E.2.2.1, 21, .inl (iv (cset rw4 k (r : Int))))), (m 16, .inl (E.2.2.2.1, 61, .inr (.inl (pL (p3 16))))), (m 0, .inr (8, [.int (zI kc), .ref (m 1), .ref (m 2), .ref (m 3), .ref (m 4), .ref (m 5), .ref (m 6), .int (zI le), .ref (m 7), .ref (m 8), .ref (m 9), .ref (m 10), .ref (m 11), .ref (m 12), .ref (m 13), .ref (m 14), .ref (m 15), .ref (m 16)])), (m 14, .inl (E.2.2.2.1, 1408, .inr (.inl (pL (brO t4 r a k)))))]) rfl rfl rfl ?_
                refine g_iinc C [(1, .int (zI ((r : Int) + 1))), (3, .int (zI y)), (2, .int (zI x)), (0, .ref (m 0))] dX8_solve_78 2 rfl (by decide) rfl ?_
                obtain ⟨r2, t5, rw5, hr2, ht5, hrw5⟩ : ∃ (r2 : Nat) (t5 : Po) (rw5 : Nat → Int), r2 = r + 1 ∧ t5 = brO t4 r a k ∧ rw5 = cset rw4 k (r : Int) := ⟨_, _, _, rfl, rfl, rfl⟩
                have hG2 : Gj t3 t5 r2 (k + 1) rw5 := by rw [hr2, ht5, hrw5]; exact Gj_step hG (by omega) (by omega) hra hne
                have hr3 : (r : Int) + 1 = (r2 : Int) := by omega
                have hr21 : r2 ≤ k + 1 := hG2.2.1
                refine g_eq (ws' := [aJ E (m 1) (p3 1), aJ E (m 2) (p3 2), aJ E (m 3) (p3 3), aJ E (m 4) (p3 4), aJ E (m 5) (p3 5), (m 6, .inl (E.2.2.1, 9, .inl (iv d2))), aJ E (m 7) (p3 7), aJ E (m 8) (p3 8), aJ E (m 9) (p3 9), aJ E (m 10) (p3 10), aJ E (m 11) (p3 11), aJ E (m 12) (p3 12), aJ E (m 13) (p3 13), (m 15, .inl (E.2.2.1, 21, .inl (iv rw5))), (m 16, .inl (E.2.2.2.1, 61, .inr (.inl (pL (p3 16))))), (m 0, .inr (8, [.int (zI kc), .ref (m 1), .ref (m 2), .ref (m 3), .ref (m 4), .ref (m 5), .ref (m 6), .int (zI le), .ref (m 7), .ref (m 8), .ref (m 9), .ref (m 10), .ref (m 11), .ref (m 12), .ref (m 13), .ref (m 14), .ref (m 15), .ref (m 16)])), (m 14, .inl (E.2.2.2.1, 1408, .inr (.inl (pL t5))))]) (lv' := [(1, .int (zI (r2 : Int))), (3, .int (zI y)), (2, .int (zI x)), (0, .ref (m 0))]) (by rw [ht5, hrw5]) (by rw [hr3]) rfl ?_
                refine g_iconst C dX8_solve_81 ?_
                refine g_istore C [(4, .int (zI 1)), (1, .int (zI (r2 : Int))), (3, .int (zI y)), (2, .int (zI x)), (0, .ref (m 0))] dX8_solve_82 (by decide) rfl ?_
                refine g_iload_n C dX8_solve_84 1 rfl ?_
                refine g_istore C [(5, .int (zI (r2 : Int))), (4, .int (zI 1)), (1, .int (zI (r2 : Int))), (3, .int (zI y)), (2, .int (zI x)), (0, .ref (m 0))] dX8_solve_85 (by decide) rfl ?_
                have lp_m : ∀ (n_m : Nat) (y : Int) (i : Nat) (b : Int), (y = (i : Int)) → (r2 ≤ i ∧ i ≤ 64) → ((b = 1 ∧ ∀ i9 : Nat, r2 ≤ i9 → i9 < i → t5 (22 * i9 + 21) = 0) ∨ (b = 0 ∧ ∃ i9 : Nat, r2 ≤ i9 ∧ i9 < i ∧ t5 (22 * i9 + 21) ≠ 0)) → 64 - i < n_m → G 0 0 [(m 0, .inr (8, [.int (zI kc), .ref (m 1), .ref (m 2), .ref (m 3), .ref (m 4), .ref (m 5), .ref (m 6), .int (zI le), .ref (m 7), .ref (m 8), .ref (m 9), .ref (m 10), .ref (m 11), .ref (m 12), .ref (m 13), .ref (m 14), .ref (m 15), .ref (m 16)])), aJ E (m 1) (p3 1), aJ E (m 2) (p3 2), aJ E (m 3) (p3 3), aJ E (m 4) (p3 4), aJ E (m 5) (p3 5), (m 6, .inl (E.2.2.1, 9, .inl (iv d2))), aJ E (m 7) (p3 7), aJ E (m 8) (p3 8), aJ E (m 9) (p3 9), aJ E (m 10) (p3 10), aJ E (m 11) (p3 11), aJ E (m 12) (p3 12), aJ E (m 13) (p3 13), (m 14, .inl (E.2.2.2.1, 1408, .inr (.inl (pL t5)))), (m 15, .inl (E.2.2.1, 21, .inl (iv rw5))), (m 16, .inl (E.2.2.2.1, 61, .inr (.inl (pL (p3 16)))))] [(5, .int (zI y)), (4, .int (zI b)), (2, .int (zI x)), (1, .int (zI (r2 : Int))), (0, .ref (m 0))] 87 [] := by
                  intro n_m
                  induction n_m with
                  | zero =>
                    intro y i b hy hi9 hb hm_m
                    exact absurd hm_m (by omega)
                  | succ n_m ih_m =>
                    intro y i b hy hi9 hb hm_m
                    refine g_iload C dX8_solve_87 0 rfl ?_
                    refine g_bipush C dX8_solve_89 rfl ?_
                    refine g_icmp_ge C 130 dX8_solve_91 (by decide) (by omega) (by omega) (by omega) (by omega) (fun c_91 => ?_) (fun c_91 => ?_)
                    · refine g_iload C dX8_solve_130 1 rfl ?_
                      refine g_if_ne C 138 dX8_solve_132 (by decide) (by omega) (by omega) (fun c_132 => ?_) (fun c_132 => ?_)
                      · have hzz : ∀ i9 : Nat, r2 ≤ i9 → i9 < 64 → t5 (22 * i9 + 21) = 0 := by rcases hb with ⟨h9, h8⟩ | ⟨h9, -⟩; (exact fun i9 h1 h2 => h8 i9 h1 (by omega)); exact absurd h9 c_132
                        refine g_aload_n C dX8_solve_138 4 rfl ?_
                        refine g_get C 0 rfl rfl 8 (by decide) in_X8_solve_X8 lk_X8_solve_answer rfl dX8_solve_139 ?_
                        refine g_callSCv (n := 1) (wr := [(m 0, .inr (8, [.int (zI kc), .ref (m 1), .ref (m 2), .ref (m 3), .ref (m 4), .ref (m 5), .ref (m 6), .int (zI le), .ref (m 7), .ref (m 8), .ref (m 9), .ref (m 10), .ref (m 11), .ref (m 12), .ref (m 13), .ref (m 14), .ref (m 15), .ref (m 16)])), aJ E (m 1) (p3 1), aJ E (m 2) (p3 2), aJ E (m 3) (p3 3), aJ E (m 4) (p3 4), aJ E (m 5) (p3 5), (m 6, .inl (E.2.2.1, 9, .inl (iv d2))), aJ E (m 8) (p3 8), aJ E (m 9) (p3 9), aJ E (m 10) (p3 10), aJ E (m 11) (p3 11), aJ E (m 12) (p3 12), aJ E (m 13) (p3 13), (m 14, .inl (E.2.2.2.1, 1408, .inr (.inl (pL t5)))), (m 15, .inl (E.2.2.1, 21, .inl (iv rw5))), (m 16, .inl (E.2.2.2.1, 61, .inr (.inl (pL (p3 16)))))]) C (c_X8_empty E l (m 7) (p3 7) (hp3.1 7 (by omega))) gX8_solve_X8_empty rfl (by decide +kernel) rfl (by decide) dX8_solve_142 rfl (Nat.le_of_ble_eq_true rfl) [7] [0, 1, 2, 3, 4, 5, 6, 8, 9, 10, 11, 12, 13, 14, 15, 16] rfl rfl (by decide) (fun w_142 h_142 => ?_)
                        obtain rfl := h_142
                        refine g_eq (ws' := [(m 0, .inr (8, [.int (zI kc), .ref (m 1), .ref (m 2), .ref (m 3), .ref (m 4), .ref (m 5), .ref (m 6), .int (zI le), .ref (m 7), .ref (m 8), .ref (m 9), .ref (m 10), .ref (m 11), .ref (m 12), .ref (m 13), .ref (m 14), .ref (m 15), .ref (m 16)])), aJ E (m 1) (p3 1), aJ E (m 2) (p3 2), aJ E (m 3) (p3 3), aJ E (m 4) (p3 4), aJ E (m 5) (p3 5), (m 6, .inl (E.2.2.1, 9, .inl (iv d2))), aJ E (m 8) (p3 8), aJ E (m 9) (p3 9), aJ E (m 10) (p3 10), aJ E (m 11) (p3 11), aJ E (m 12) (p3 12), aJ E (m 13) (p3 13), (m 14, .inl (E.2.2.2.1, 1408, .inr (.inl (pL t5)))), (m 15, .inl (E.2.2.1, 21, .inl (iv rw5))), (m 16, .inl (E.2.2.2.1, 61, .inr (.inl (pL (p3 16))))), aJ E (m 7) zr]) rfl rfl rfl ?_
                        refine g_iconst C dX8_solve_145 ?_
                        refine g_istore C [(5, .int (zI 0)), (4, .int (zI b)), (2, .int (zI x)), (1, .int (zI (r2 : Int))), (0, .ref (m 0))] dX8_solve_146 (by decide) rfl ?_
                        have lp_n : ∀ (n_n : Nat) (y6 : Int) (i6 : Nat) (an : Po), (y6 = (i6 : Int)) → (i6 ≤ k + 1) → (∀ j : Nat, an j = if j < i6 then (if rw5 j = -1 then 0 else t5 (22 * (rw5 j).toNat + 21)) else 0) → 21 - i6 < n_n → G 0 0 [(m 0, .inr (8, [.int (zI kc), .ref (m 1), .ref (m 2), .ref (m 3), .ref (m 4), .ref (m 5), .ref (m 6), .int (zI le), .ref (m 7), .ref (m 8), .ref (m 9), .ref (m 10), .ref (m 11), .ref (m 12), .ref (m 13), .ref (m 14), .ref (m 15), .ref (m 16)])), aJ E (m 1) (p3 1), aJ E (m 2) (p3 2), aJ E (m 3) (p3 3), aJ E (m 4) (p3 4), aJ E (m 5) (p3 5), (m 6, .inl (E.2.2.1, 9, .inl (iv d2))), aJ E (m 7) an, aJ E (m 8) (p3 8), aJ E (m 9) (p3 9), aJ E (m 10) (p3 10), aJ E (m 11) (p3 11), aJ E (m 12) (p3 12), aJ E (m 13) (p3 13), (m 14, .inl (E.2.2.2.1, 1408, .inr (.inl (pL t5)))), (m 15, .inl (E.2.2.1, 21, .inl (iv rw5))), (m 16, .inl (E.2.2.2.1, 61, .inr (.inl (pL (p3 16)))))] [(5, .int (zI y6)), (2, .int (zI x)), (1, .int (zI (r2 : Int))), (0, .ref (m 0))] 148 [] := by
                          intro n_n
                          induction n_n with
                          | zero =>
                            intro y6 i6 an hy6 hi6 han hm_n
                            exact absurd hm_n (by omega)
                          | succ n_n ih_n =>
                            intro y6 i6 an hy6 hi6 han hm_n
                            refine g_iload C dX8_solve_148 0 rfl ?_
                            refine g_iload_n C dX8_solve_150 1 rfl ?_
                            refine g_icmp_gt C 200 dX8_solve_151 (by decide) (by omega) (by omega) (by omega) (by omega) (fun c_151 => ?_) (fun c_151 => ?_)
                            · obtain rfl : i6 = k + 1 := by omega
                              refine g_iload_n C dX8_solve_200 1 rfl ?_
                              have hso : SolOk (Tc (p3 3) (p3 4)) (p3 5) x an := Or.inr ⟨k, hx, by omega, Gj_sol hG2 (by omega) hTb hzz (fun j hj => by rw [han j, if_pos (by omega)]), fun j hj => by rw [han j, if_neg (by omega)], fun j hj hin => by rw [han j, if_pos (by omega), if_pos (Gj_piv hG2 (by omega) hTb (by omega) hin)], hN⟩
                              have hs3 : (p3 3, p3 4, p3 5) = spl (p 1) (p 2) 9 := by rw [← hs2, e4.1, e4.2.1, e4.2.2]
                              exact hret _ _ _ _ _ _ dX8_solve_201 (by decide) (by decide) ⟨_, rfl, pl [zr, p3 1, p3 2, p3 3, p3 4, p3 5, zr, an, p3 8, p3 9, p3 10, p3 11, p3 12, p3 13, zr, zr, p3 16], d2, _, _, ⟨pl14 (l := [zr, p3 1, p3 2, p3 3, p3 4, p3 5, zr, an, p3 8, p3 9, p3 10, p3 11, p3 12, p3 13]) rfl (fm Sm_zr (fm (hp3.1 1 (by omega)) (fm (hp3.1 2 (by omega)) (fm (hp3.1 3 (by omega)) (fm (hp3.1 4 (by omega)) (fm (hp3.1 5 (by omega)) (fm Sm_zr (fm (fun j hj => by rw [han j, if_neg (by omega)]) (fm (hp3.1 8 (by omega)) (fm (hp3.1 9 (by omega)) (fm (hp3.1 10 (by omega)) (fm (hp3.1 11 (by omega)) (fm (hp3.1 12 (by omega)) (fm (hp3.1 13 (by omega)) fn)))))))))))))), hp3.2.1, hp3.2.2⟩, e3.1.trans e1, e3.2.trans e2, hs3, hso, rfl⟩
                            · have hrw := Gj_rw hG2 (show i6 < k + 1 by omega)
                              refine g_aload_n C dX8_solve_154 3 rfl ?_
                              refine g_get C 0 rfl rfl 8 (by decide) in_X8_solve_X8 lk_X8_solve_answer rfl dX8_solve_155 ?_
                              refine g_iload C dX8_solve_158 0 rfl ?_
                              refine g_aload_n C dX8_solve_160 3 rfl ?_
                              refine g_get C 0 rfl rfl 16 (by decide) in_X8_solve_X8 lk_X8_solve_row rfl dX8_solve_161 ?_
                              refine g_iload C dX8_solve_164 0 rfl ?_
                              refine g_ialdZ C 15 i6 rfl (by omega) (by omega) (by decide) dX8_solve_166 ?_
                              refine g_iconst C dX8_solve_167 ?_
                              refine g_icmp_ne C 175 dX8_solve_168 (by decide) (by omega) (by omega) (by omega) (by omega) (fun c_168 => ?_) (fun c_168 => ?_)
                              · refine g_aload_n C dX8_solve_175 3 rfl ?_
                                refine g_get C 0 rfl rfl 15 (by decide) in_X8_solve_X8 lk_X8_solve_table rfl dX8_solve_176 ?_
                                refine g_bipush C dX8_solve_179 rfl ?_
                                refine g_aload_n C dX8_solve_181 3 rfl ?_
                                refine g_get C 0 rfl rfl 16 (by decide) in_X8_solve_X8 lk_X8_solve_row rfl dX8_solve_182 ?_
                                refine g_iload C dX8_solve_185 0 rfl ?_
                                refine g_ialdZ C 15 i6 rfl (by omega) (by omega) (by decide) dX8_solve_187 ?_
                                refine g_imul C dX8_solve_188 ?_
                                refine g_bipush C dX8_solve_189 rfl ?_
                                refine g_iadd C dX8_solve_191 ?_
                                refine g_lald C 14 (22 * (rw5 i6).toNat + 21) rfl (by omega) (by omega) (by decide) dX8_solve_192 ?_
                                refine g_last C [(m 0, .inr (8, [.int (zI kc), .ref (m 1), .ref (m 2), .ref (m 3), .ref (m 4), .ref (m 5), .ref (m 6), .int (zI le), .ref (m 7), .ref (m 8), .ref (m 9), .ref (m 10), .ref (m 11), .ref (m 12), .ref (m 13), .ref (m 14), .ref (m 15), .ref (m 16)])), aJ E (m 1) (p3 1), aJ E (m 2) (p3 2), aJ E (m 3) (p3 3), aJ E (m 4) (p3 4), aJ E (m 5) (p3 5), (m 6, .inl (E.2.2.1, 9, .inl (iv d2))), aJ E (m 7) (cset an i6 (t5 (22 * (rw5 i6).toNat + 21))), aJ E (m 8) (p3 8), aJ E (m 9) (p3 9), aJ E (m 10) (p3 10), aJ E (m 11) (p3 11), aJ E (m 12) (p3 12), aJ E (m 13) (p3 13), (m 14, .inl (E.2.2.2.1, 1408, .inr (.inl (pL t5)))), (m 15, .inl (E.2.2.1, 21, .inl (iv rw5))), (m 16, .inl (E.2.2.2.1, 61, .inr (.inl (pL (p3 16)))))] 7 i6 (t5 (22 * (rw5 i6).toNat + 21)) rfl (by omega) (by omega) (by decide) (rfl) dX8_solve_193 rfl ?_
                                refine g_iinc C [(5, .int (zI (y6 + 1))), (2, .int (zI x)), (1, .int (zI (r2 : Int))), (0, .ref (m 0))] dX8_solve_194 0 rfl (by decide) rfl ?_
                                refine g_goto C 148 dX8_solve_197 (by decide) ?_
                                exact ih_n (y6 + 1) (i6 + 1) _ (by omega) (by omega) (cp_next (a := fun _ => 0) (b := fun j => if rw5 j = -1 then 0 else t5 (22 * (rw5 j).toNat + 21)) han (by show _ = (if rw5 i6 = -1 then 0 else t5 (22 * (rw5 i6).toNat + 21)); first | rw [if_pos c_168] | rw [if_neg c_168])) (by omega)
                              · refine g_lconst C dX8_solve_171 ?_
                                refine g_goto C 193 dX8_solve_172 (by decide) ?_
                                refine g_last C [(m 0, .inr (8, [.int (zI kc), .ref (m 1), .ref (m 2), .ref (m 3), .ref (m 4), .ref (m 5), .ref (m 6), .int (zI le), .ref (m 7), .ref (m 8), .ref (m 9), .ref (m 10), .ref (m 11), .ref (m 12), .ref (m 13), .ref (m 14), .ref (m 15), .ref (m 16)])), aJ E (m 1) (p3 1), aJ E (m 2) (p3 2), aJ E (m 3) (p3 3), aJ E (m 4) (p3 4), aJ E (m 5) (p3 5), (m 6, .inl (E.2.2.1, 9, .inl (iv d2))), aJ E (m 7) (cset an i6 0), aJ E (m 8) (p3 8), aJ E (m 9) (p3 9), aJ E (m 10) (p3 10), aJ E (m 11) (p3 11), aJ E (m 12) (p3 12), aJ E (m 13) (p3 13), (m 14, .inl (E.2.2.2.1, 1408, .inr (.inl (pL t5)))), (m 15, .inl (E.2.2.1, 21, .inl (iv rw5))), (m 16, .inl (E.2.2.2.1, 61, .inr (.inl (pL (p3 16)))))] 7 i6 0 rfl (by omega) (by omega) (by decide) (by decide) dX8_solve_193 rfl ?_
                                refine g_iinc C [(5, .int (zI (y6 + 1))), (2, .int (zI x)), (1, .int (zI (r2 : Int))), (0, .ref (m 0))] dX8_solve_194 0 rfl (by decide) rfl ?_
                                refine g_goto C 148 dX8_solve_197 (by decide) ?_
                                exact ih_n (y6 + 1) (i6 + 1) _ (by omega) (by omega) (cp_next (a := fun _ => 0) (b := fun j => if rw5 j = -1 then 0 else t5 (22 * (rw5 j).toNat + 21)) han (by show _ = (if rw5 i6 = -1 then 0 else t5 (22 * (rw5 i6).toNat + 21)); first | rw [if_pos c_168] | rw [if_neg c_168])) (by omega)
                        refine g_lsub C [0, 2, 3, 4] rfl ?_
                        refine g_wsub (ws' := [(m 0, .inr (8, [.int (zI kc), .ref (m 1), .ref (m 2), .ref (m 3), .ref (m 4), .ref (m 5), .ref (m 6), .int (zI le), .ref (m 7), .ref (m 8), .ref (m 9), .ref (m 10), .ref (m 11), .ref (m 12), .ref (m 13), .ref (m 14), .ref (m 15), .ref (m 16)])), aJ E (m 1) (p3 1), aJ E (m 2) (p3 2), aJ E (m 3) (p3 3), aJ E (m 4) (p3 4), aJ E (m 5) (p3 5), (m 6, .inl (E.2.2.1, 9, .inl (iv d2))), aJ E (m 7) zr, aJ E (m 8) (p3 8), aJ E (m 9) (p3 9), aJ E (m 10) (p3 10), aJ E (m 11) (p3 11), aJ E (m 12) (p3 12), aJ E (m 13) (p3 13), (m 14, .inl (E.2.2.2.1, 1408, .inr (.inl (pL t5)))), (m 15, .inl (E.2.2.1, 21, .inl (iv rw5))), (m 16, .inl (E.2.2.2.1, 61, .inr (.inl (pL (p3 16)))))]) C [0, 1, 2, 3, 4, 5, 6, 16, 7, 8, 9, 10, 11, 12, 13, 14, 15] (by decide) rfl rfl ?_
                        exact lp_n 65 0 0 zr rfl (by omega) (fun j => by rw [if_neg (by omega)]; rfl) (by omega)
                      · refine g_goto C 202 dX8_solve_135 (by decide) ?_
                        refine g_iinc C [(2, .int (zI (x + 1))), (5, .int (zI y)), (4, .int (zI b)), (1, .int (zI (r2 : Int))), (0, .ref (m 0))] dX8_solve_202 2 rfl (by decide) rfl ?_
                        refine g_goto C 12 dX8_solve_205 (by decide) ?_
                        refine g_lsub C [0, 3, 4] rfl ?_
                        exact ih_o (x + 1) (k + 1) r2 t5 rw5 (by omega) (by omega) hG2 (Or.inr (by rcases hb with ⟨h9, -⟩ | ⟨h9, i9, h7, h8, h6⟩; (exfalso; omega); exact fun h5 => h6 (Gj_in hG2 (by omega) hTb h5 h7 (by omega)))) (by omega)
                    · refine g_iload C dX8_solve_94 1 rfl ?_
                      refine g_if_eq C 121 dX8_solve_96 (by decide) (by omega) (by omega) (fun c_96 => ?_) (fun c_96 => ?_)
                      · refine g_iconst C dX8_solve_121 ?_
                        refine g_istore C [(4, .int (zI 0)), (5, .int (zI y)), (2, .int (zI x)), (1, .int (zI (r2 : Int))), (0, .ref (m 0))] dX8_solve_122 (by decide) rfl ?_
                        refine g_iinc C [(5, .int (zI (y + 1))), (4, .int (zI 0)), (2, .int (zI x)), (1, .int (zI (r2 : Int))), (0, .ref (m 0))] dX8_solve_124 1 rfl (by decide) rfl ?_
                        refine g_goto C 87 dX8_solve_127 (by decide) ?_
                        exact ih_m (y + 1) (i + 1) 0 (by omega) (by omega) (by first | exact Or.inr ⟨rfl, i, by omega, by omega, fqn c_113⟩ | (rcases hb with h9 | ⟨h9, i9, h7, h8, h6⟩; (exact absurd h9.1 (by omega)); exact Or.inr ⟨rfl, i9, h7, by omega, h6⟩)) (by omega)
                      · refine g_aload_n C dX8_solve_99 4 rfl ?_
                        refine g_get C 0 rfl rfl 15 (by decide) in_X8_solve_X8 lk_X8_solve_table rfl dX8_solve_100 ?_
                        refine g_bipush C dX8_solve_103 rfl ?_
                        refine g_iload C dX8_solve_105 0 rfl ?_
                        refine g_imul C dX8_solve_107 ?_
                        refine g_bipush C dX8_solve_108 rfl ?_
                        refine g_iadd C dX8_solve_110 ?_
                        refine g_lald C 14 (22 * i + 21) rfl (by omega) (by omega) (by decide) dX8_solve_111 ?_
                        refine g_lconst C dX8_solve_112 ?_
                        refine g_lcmp_ne C 121 dX8_solve_113 dX8_solve_114 (by decide) (by have := (t5 (22 * i + 21)).isLt; omega) (by have := (t5 (22 * i + 21)).isLt; omega) (by have := (t5 (22 * i + 21)).isLt; omega) (by have := (t5 (22 * i + 21)).isLt; omega) (fun c_113 => ?_) (fun c_113 => ?_)
                        · refine g_iconst C dX8_solve_121 ?_
                          refine g_istore C [(4, .int (zI 0)), (5, .int (zI y)), (2, .int (zI x)), (1, .int (zI (r2 : Int))), (0, .ref (m 0))] dX8_solve_122 (by decide) rfl ?_
                          refine g_iinc C [(5, .int (zI (y + 1))), (4, .int (zI 0)), (2, .int (zI x)), (1, .int (zI (r2 : Int))), (0, .ref (m 0))] dX8_solve_124 1 rfl (by decide) rfl ?_
                          refine g_goto C 87 dX8_solve_127 (by decide) ?_
                          exact ih_m (y + 1) (i + 1) 0 (by omega) (by omega) (by first | exact Or.inr ⟨rfl, i, by omega, by omega, fqn c_113⟩ | (rcases hb with h9 | ⟨h9, i9, h7, h8, h6⟩; (exact absurd h9.1 (by omega)); exact Or.inr ⟨rfl, i9, h7, by omega, h6⟩)) (by omega)
                        · refine g_iconst C dX8_solve_117 ?_
                          refine g_goto C 122 dX8_solve_118 (by decide) ?_
                          refine g_istore C [(4, .int (zI 1)), (5, .int (zI y)), (2, .int (zI x)), (1, .int (zI (r2 : Int))), (0, .ref (m 0))] dX8_solve_122 (by decide) rfl ?_
                          refine g_iinc C [(5, .int (zI (y + 1))), (4, .int (zI 1)), (2, .int (zI x)), (1, .int (zI (r2 : Int))), (0, .ref (m 0))] dX8_solve_124 1 rfl (by decide) rfl ?_
                          refine g_goto C 87 dX8_solve_127 (by decide) ?_
                          exact ih_m (y + 1) (i + 1) 1 (by omega) (by omega) (by rcases hb with ⟨h9, h8⟩ | ⟨h9, -⟩; (exact Or.inl ⟨rfl, fun i9 h1 h2 => by by_cases g : i9 = i; (rw [g]; exact fq0 c_113); exact h8 i9 h1 (by omega)⟩); exact absurd h9 c_96) (by omega)
                refine g_lsub C [0, 1, 4, 2, 5] rfl ?_
                refine g_wsub (ws' := [(m 0, .inr (8, [.int (zI kc), .ref (m 1), .ref (m 2), .ref (m 3), .ref (m 4), .ref (m 5), .ref (m 6), .int (zI le), .ref (m 7), .ref (m 8), .ref (m 9), .ref (m 10), .ref (m 11), .ref (m 12), .ref (m 13), .ref (m 14), .ref (m 15), .ref (m 16)])), aJ E (m 1) (p3 1), aJ E (m 2) (p3 2), aJ E (m 3) (p3 3), aJ E (m 4) (p3 4), aJ E (m 5) (p3 5), (m 6, .inl (E.2.2.1, 9, .inl (iv d2))), aJ E (m 7) (p3 7), aJ E (m 8) (p3 8), aJ E (m 9) (p3 9), aJ E (m 10) (p3 10), aJ E (m 11) (p3 11), aJ E (m 12) (p3 12), aJ E (m 13) (p3 13), (m 14, .inl (E.2.2.2.1, 1408, .inr (.inl (pL t5)))), (m 15, .inl (E.2.2.1, 21, .inl (iv rw5))), (m 16, .inl (E.2.2.2.1, 61, .inr (.inl (pL (p3 16)))))]) C [15, 0, 1, 2, 3, 4, 5, 6, 7, 8, 9, 10, 11, 12, 16, 13, 14] (by decide) rfl rfl ?_
                exact lp_m 65 (r2 : Int) r2 1 rfl ⟨by omega, by omega⟩ (Or.inl ⟨rfl, fun i9 h1 h2 => absurd h1 (by omega)⟩) (by omega)
              · refine g_iinc C [(3, .int (zI (y + 1))), (2, .int (zI x)), (1, .int (zI (r : Int))), (0, .ref (m 0))] dX8_solve_42 0 rfl (by decide) rfl ?_
                refine g_goto C 20 dX8_solve_45 (by decide) ?_
                exact ih_a (y + 1) (a + 1) (by omega) (by omega) (by omega) (fun i h1 h2 => by by_cases g : i = a; (rw [g]; exact fq0 c_38); exact hz i h1 (by omega)) (by omega)
        exact lp_a 65 (r : Int) r rfl (by omega) (by omega) (fun i h1 h2 => absurd h1 (by omega)) (by omega)
  exact lp_o 65 0 0 0 t3 rw0 rfl (by omega) Gj_0 (Or.inl rfl) (by omega)
