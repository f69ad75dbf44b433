/-! the reference's table -/
theorem Tc_val {f : Int} {x1 x2 : Fq} (h : f = 32003 - (x1.val : Int)) : cF (f + (x2.val : Int)) = x2 - x1 := by
  rw [h, cF_add, cF_sub, cF_of, cF_of, cF_P]; grind
theorem fl_next {f g : Nat → Int} {v : Nat → Int} {i k : Nat} (hA : ∀ i' : Nat, i' < i → f (22 * i' + k) = v i') (z : Int) (hz : z = v i) : ∀ i' : Nat, i' < i + 1 → cset f (22 * i + k) z (22 * i' + k) = v i' := fun i' h => by
  by_cases e : i' = i
  · rw [e, cset_eq, hz]
  · rw [cset_ne (by omega)]; exact hA i' (by omega)
theorem fl_keep {f g : Nat → Int} {i k : Nat} (hB : ∀ j : Nat, (∀ i' : Nat, i' < i → j ≠ 22 * i' + k) → f j = g j) (z : Int) : ∀ j : Nat, (∀ i' : Nat, i' < i + 1 → j ≠ 22 * i' + k) → cset f (22 * i + k) z j = g j := fun j h => by
  rw [cset_ne (h i (by omega))]; exact hB j (fun i' hi => h i' (by omega))
theorem fl_rng {f g : Nat → Int} {k : Nat} {v : Nat → Fq} (hk : k < 22) (hg : ∀ j : Nat, 0 ≤ g j ∧ g j < 32003) (hA : ∀ i : Nat, i < 64 → f (22 * i + k) = ((v i).val : Int)) (hB : ∀ j : Nat, (∀ i : Nat, i < 64 → j ≠ 22 * i + k) → f j = g j) : ∀ j : Nat, 0 ≤ f j ∧ f j < 32003 := fun j => by
  by_cases e : j % 22 = k ∧ j / 22 < 64
  · have h := hA (j / 22) e.2
    rw [show 22 * (j / 22) + k = j by omega] at h
    have := (v (j / 22)).isLt
    omega
  · rw [hB j (fun i hi he => e (by omega))]; exact hg j
theorem qL_pL {f : Nat → Int} (h : ∀ j : Nat, 0 ≤ f j ∧ f j < 32003) : qL f = pL (fun j => cF (f j)) := by
  funext j
  show zL (f j) = zL ((cF (f j)).val : Int)
  rw [cF_val]
  congr 1
  have := h j
  omega
theorem in_X8_fill_X8 : ∀ w ∈ u_ws RX8 TX8 18, w ∈ wsX8_fill := by decide +kernel
theorem lk_X8_fill_h : Cond.fieldLink yX8_fill.cls 41 (TX8 12).1 (TX8 12).2.1 (TX8 12).2.2.1 ∈ wsX8_fill := by decide +kernel
theorem lk_X8_fill_b : Cond.fieldLink yX8_fill.cls 19 (TX8 4).1 (TX8 4).2.1 (TX8 4).2.2.1 ∈ wsX8_fill := by decide +kernel
theorem lk_X8_fill_l32002 : Jvm.Cond.constantLong yX8_fill.cls 104 (zL 32002) ∈ wsX8_fill := by decide +kernel
theorem lk_X8_fill_g : Cond.fieldLink yX8_fill.cls 38 (TX8 11).1 (TX8 11).2.1 (TX8 11).2.2.1 ∈ wsX8_fill := by decide +kernel
theorem lk_X8_fill_table : Cond.fieldLink yX8_fill.cls 50 (TX8 15).1 (TX8 15).2.1 (TX8 15).2.2.1 ∈ wsX8_fill := by decide +kernel
theorem lk_X8_fill_l32003 : Jvm.Cond.constantLong yX8_fill.cls 63 (zL 32003) ∈ wsX8_fill := by decide +kernel
theorem lk_X8_fill_x : Cond.fieldLink yX8_fill.cls 44 (TX8 13).1 (TX8 13).2.1 (TX8 13).2.2.1 ∈ wsX8_fill := by decide +kernel
theorem lk_X8_fill_a : Cond.fieldLink yX8_fill.cls 16 (TX8 3).1 (TX8 3).2.1 (TX8 3).2.2.1 ∈ wsX8_fill := by decide +kernel
theorem lk_X8_fill_c : Cond.fieldLink yX8_fill.cls 22 (TX8 5).1 (TX8 5).2.1 (TX8 5).2.2.1 ∈ wsX8_fill := by decide +kernel
set_option maxHeartbeats 4000000 in
set_option maxRecDepth 100000 in
theorem c_X8_fill (E : ev) (l : Launch) (m : Nat → Nat) (kc le : Int) (p : Nat → Po) (d : Nat → Int) (t : Po) (rw0 : Nat → Int) (hp : RmOk p) (h4 : hi (p 3) ≤ 4 ∧ hi (p 4) ≤ 4) : Mv E l yX8_fill wsX8_fill { frames := 2, cells := 0, slots := 0, locals := 60 } [.ref (m 0)] (rmX E m kc le p d t rw0) (fun w => ∃ (p2 : Nat → Po) (t2 : Po), RmOk p2 ∧ (p2 1 = p 1 ∧ p2 2 = p 2) ∧ (p2 3 = p 3 ∧ p2 4 = p 4 ∧ p2 5 = p 5) ∧ (∀ i : Nat, i < 64 → ∀ k : Nat, k < 21 → t2 (22 * i + k) = Tc (p 3) (p 4) k i) ∧ (∀ i : Nat, i < 64 → t2 (22 * i + 21) = p 5 i) ∧ w = rmX E m kc le p2 d t2 rw0) 0 0 := by
  refine enter_v (cc := cX8_fill) (nL := 3) (by decide) rfl (Nat.le_of_ble_eq_true rfl) (fun G C hret => ?_)
  obtain ⟨a, ea⟩ : ∃ a, a = p 3 := ⟨_, rfl⟩
  obtain ⟨b, eb⟩ : ∃ b, b = p 4 := ⟨_, rfl⟩
  obtain ⟨c, ec⟩ : ∃ c, c = p 5 := ⟨_, rfl⟩
  refine g_eq (ws' := [(m 0, .inr (8, [.int (zI kc), .ref (m 1), .ref (m 2), .ref (m 3), .ref (m 4), .ref (m 5), .ref (m 6), .int (zI le), .ref (m 7), .ref (m 8), .ref (m 9), .ref (m 10), .ref (m 11), .ref (m 12), .ref (m 13), .ref (m 14), .ref (m 15), .ref (m 16)])), aJ E (m 1) (p 1), aJ E (m 2) (p 2), aJ E (m 3) a, aJ E (m 4) b, aJ E (m 5) c, (m 6, .inl (E.2.2.1, 9, .inl (iv d))), aJ E (m 7) (p 7), aJ E (m 8) (p 8), aJ E (m 9) (p 9), aJ E (m 10) (p 10), aJ E (m 11) (p 11), aJ E (m 12) (p 12), aJ E (m 13) (p 13), (m 14, .inl (E.2.2.2.1, 1408, .inr (.inl (pL t)))), (m 15, .inl (E.2.2.1, 21, .inl (iv rw0))), (m 16, .inl (E.2.2.2.1, 61, .inr (.inl (pL (p 16)))))]) (by rw [ea, eb, ec]; rfl) rfl rfl ?_
  have hSa : Sm a := by rw [ea]; exact hp.1 3 (by omega)
  have hSb : Sm b := by rw [eb]; exact hp.1 4 (by omega)
  have hSc : Sm c := by rw [ec]; exact hp.1 5 (by omega)
  rw [← ea, ← eb] at h4
  have h4a := h4.1
  have h4b := h4.2
  refine g_eq (ws' := [(m 0, .inr (8, [.int (zI kc), .ref (m 1), .ref (m 2), .ref (m 3), .ref (m 4), .ref (m 5), .ref (m 6), .int (zI le), .ref (m 7), .ref (m 8), .ref (m 9), .ref (m 10), .ref (m 11), .ref (m 12), .ref (m 13), .ref (m 14), .ref (m 15), .ref (m 16)])), aJ E (m 1) (p 1), aJ E (m 2) (p 2), aJ E (m 3) a, aJ E (m 4) b, aJ E (m 5) c, (m 6, .inl (E.2.2.1, 9, .inl (iv d))), aJ E (m 7) (p 7), aJ E (m 8) (p 8), aJ E (m 9) (p 9), aJ E (m 10) (p 10), aJ E (m 11) (p 11), aJ E (m 12) (p 12), aJ E (m 13) (p 13), (m 14, .inl (E.2.2.2.1, 1408, .inr (.inl (qL (fun j => ((t j).val : Int)))))), (m 15, .inl (E.2.2.1, 21, .inl (iv rw0))), (m 16, .inl (E.2.2.2.1, 61, .inr (.inl (pL (p 16)))))]) rfl rfl rfl ?_
  refine g_aload_n C dX8_fill_0 0 rfl ?_
  refine g_get C 0 rfl rfl 12 (by decide) in_X8_fill_X8 lk_X8_fill_h rfl dX8_fill_1 ?_
  refine g_aload_n C dX8_fill_4 0 rfl ?_
  refine g_get C 0 rfl rfl 4 (by decide) in_X8_fill_X8 lk_X8_fill_b rfl dX8_fill_5 ?_
  refine g_callSCv (n := 2) (wr := [(m 0, .inr (8, [.int (zI kc), .ref (m 1), .ref (m 2), .ref (m 3), .ref (m 4), .ref (m 5), .ref (m 6), .int (zI le), .ref (m 7), .ref (m 8), .ref (m 9), .ref (m 10), .ref (m 11), .ref (m 12), .ref (m 13), .ref (m 14), .ref (m 15), .ref (m 16)])), aJ E (m 1) (p 1), aJ E (m 2) (p 2), aJ E (m 3) a, aJ E (m 5) c, (m 6, .inl (E.2.2.1, 9, .inl (iv d))), aJ E (m 7) (p 7), aJ E (m 8) (p 8), aJ E (m 9) (p 9), aJ E (m 10) (p 10), aJ E (m 12) (p 12), aJ E (m 13) (p 13), (m 14, .inl (E.2.2.2.1, 1408, .inr (.inl (qL (fun j => ((t j).val : Int)))))), (m 15, .inl (E.2.2.1, 21, .inl (iv rw0))), (m 16, .inl (E.2.2.2.1, 61, .inr (.inl (pL (p 16)))))]) C (c_X8_copy E l (m 11) (m 4) (p 11) b ⟨hp.1 11 (by omega), hSb⟩) gX8_fill_X8_copy rfl (by decide +kernel) rfl (by decide) dX8_fill_8 rfl (Nat.le_of_ble_eq_true rfl) [11, 4] [0, 1, 2, 3, 5, 6, 7, 8, 9, 10, 12, 13, 14, 15, 16] rfl rfl (by decide) (fun w_8 h_8 => ?_)
  obtain rfl := h_8
  refine g_eq (ws' := [(m 0, .inr (8, [.int (zI kc), .ref (m 1), .ref (m 2), .ref (m 3), .ref (m 4), .ref (m 5), .ref (m 6), .int (zI le), .ref (m 7), .ref (m 8), .ref (m 9), .ref (m 10), .ref (m 11), .ref (m 12), .ref (m 13), .ref (m 14), .ref (m 15), .ref (m 16)])), aJ E (m 1) (p 1), aJ E (m 2) (p 2), aJ E (m 3) a, aJ E (m 5) c, (m 6, .inl (E.2.2.1, 9, .inl (iv d))), aJ E (m 7) (p 7), aJ E (m 8) (p 8), aJ E (m 9) (p 9), aJ E (m 10) (p 10), aJ E (m 12) (p 12), aJ E (m 13) (p 13), (m 14, .inl (E.2.2.2.1, 1408, .inr (.inl (qL (fun j => ((t j).val : Int)))))), (m 15, .inl (E.2.2.1, 21, .inl (iv rw0))), (m 16, .inl (E.2.2.2.1, 61, .inr (.inl (pL (p 16))))), aJ E (m 11) b, aJ E (m 4) b]) rfl rfl rfl ?_
  refine g_aload_n C dX8_fill_11 0 rfl ?_
  refine g_get C 0 rfl rfl 12 (by decide) in_X8_fill_X8 lk_X8_fill_h rfl dX8_fill_12 ?_
  refine g_ldc2 C 32002 lk_X8_fill_l32002 dX8_fill_15 ?_
  refine g_ltop (zL (((32002 : Fq)).val : Int)) rfl ?_
  refine g_callSCv (n := 2) (wr := [(m 0, .inr (8, [.int (zI kc), .ref (m 1), .ref (m 2), .ref (m 3), .ref (m 4), .ref (m 5), .ref (m 6), .int (zI le), .ref (m 7), .ref (m 8), .ref (m 9), .ref (m 10), .ref (m 11), .ref (m 12), .ref (m 13), .ref (m 14), .ref (m 15), .ref (m 16)])), aJ E (m 1) (p 1), aJ E (m 2) (p 2), aJ E (m 3) a, aJ E (m 5) c, (m 6, .inl (E.2.2.1, 9, .inl (iv d))), aJ E (m 7) (p 7), aJ E (m 8) (p 8), aJ E (m 9) (p 9), aJ E (m 10) (p 10), aJ E (m 12) (p 12), aJ E (m 13) (p 13), (m 14, .inl (E.2.2.2.1, 1408, .inr (.inl (qL (fun j => ((t j).val : Int)))))), (m 15, .inl (E.2.2.1, 21, .inl (iv rw0))), (m 16, .inl (E.2.2.2.1, 61, .inr (.inl (pL (p 16))))), aJ E (m 4) b]) C (c_X8_move E l (m 11) b 32002 hSb) gX8_fill_X8_move rfl (by decide +kernel) rfl (by decide) dX8_fill_18 rfl (Nat.le_of_ble_eq_true rfl) [15] [0, 1, 2, 3, 4, 5, 6, 7, 8, 9, 10, 11, 12, 13, 14, 16] rfl rfl (by decide) (fun w_18 h_18 => ?_)
  obtain rfl := h_18
  refine g_eq (ws' := [(m 0, .inr (8, [.int (zI kc), .ref (m 1), .ref (m 2), .ref (m 3), .ref (m 4), .ref (m 5), .ref (m 6), .int (zI le), .ref (m 7), .ref (m 8), .ref (m 9), .ref (m 10), .ref (m 11), .ref (m 12), .ref (m 13), .ref (m 14), .ref (m 15), .ref (m 16)])), aJ E (m 1) (p 1), aJ E (m 2) (p 2), aJ E (m 3) a, aJ E (m 5) c, (m 6, .inl (E.2.2.1, 9, .inl (iv d))), aJ E (m 7) (p 7), aJ E (m 8) (p 8), aJ E (m 9) (p 9), aJ E (m 10) (p 10), aJ E (m 12) (p 12), aJ E (m 13) (p 13), (m 14, .inl (E.2.2.2.1, 1408, .inr (.inl (qL (fun j => ((t j).val : Int)))))), (m 15, .inl (E.2.2.1, 21, .inl (iv rw0))), (m 16, .inl (E.2.2.2.1, 61, .inr (.inl (pL (p 16))))), aJ E (m 4) b, aJ E (m 11) (mvp b 32002)]) rfl rfl rfl ?_
  refine g_iconst C dX8_fill_21 ?_
  refine g_istore_n C [(1, .int (zI 0)), (0, .ref (m 0))] dX8_fill_22 (by decide) rfl ?_
  have lp_o : ∀ (n_o : Nat) (x : Int) (k : Nat) (f : Nat → Int) (g : Po) (x0 : Po), (x = (k : Int)) → (k ≤ 21) → (Sm g ∧ Sm x0) → (∀ j : Nat, 0 ≤ f j ∧ f j < 32003) → (∀ i : Nat, i < 64 → ∀ k9 : Nat, k9 < k → f (22 * i + k9) = ((Tc a b k9 i).val : Int)) → 21 - k < n_o → G 0 0 [(m 0, .inr (8, [.int (zI kc), .ref (m 1), .ref (m 2), .ref (m 3), .ref (m 4), .ref (m 5), .ref (m 6), .int (zI le), .ref (m 7), .ref (m 8), .ref (m 9), .ref (m 10), .ref (m 11), .ref (m 12), .ref (m 13), .ref (m 14), .ref (m 15), .ref (m 16)])), aJ E (m 1) (p 1), aJ E (m 2) (p 2), aJ E (m 3) a, aJ E (m 4) b, aJ E (m 5) c, (m 6, .inl (E.2.2.1, 9, .inl (iv d))), aJ E (m 7) (p 7), aJ E (m 8) (p 8), aJ E (m 9) (p 9), aJ E (m 10) g, aJ E (m 11) (mvp b 32002), aJ E (m 12) x0, aJ E (m 13) (p 13), (m 14, .inl (E.2.2.2.1, 1408, .inr (.inl (qL f)))), (m 15, .inl (E.2.2.1, 21, .inl (iv rw0))), (m 16, .inl (E.2.2.2.1, 61, .inr (.inl (pL (p 16)))))] [(1, .int (zI x)), (0, .ref (m 0))] 23 [] := by
    intro n_o
    induction n_o with
    | zero =>
      intro x k f g x0 hx hk hg hr hT hm_o
      exact absurd hm_o (by omega)
    | succ n_o ih_o =>
      intro x k f g x0 hx hk hg hr hT hm_o
      refine g_iload_n C dX8_fill_23 0 rfl ?_
      refine g_bipush C dX8_fill_24 rfl ?_
      refine g_icmp_gt C 163 dX8_fill_26 (by decide) (by omega) (by omega) (by omega) (by omega) (fun c_26 => ?_) (fun c_26 => ?_)
      · refine g_iconst C dX8_fill_163 ?_
        refine g_istore_n C [(1, .int (zI 0)), (0, .ref (m 0))] dX8_fill_164 (by decide) rfl ?_
        have lp_r : ∀ (n_r : Nat) (y : Int) (i : Nat) (f3 : Nat → Int), (y = (i : Int)) → (i ≤ 64) → (∀ i9 : Nat, i9 < i → f3 (22 * i9 + 21) = ((c i9).val : Int)) → (∀ j : Nat, (∀ i9 : Nat, i9 < i → j ≠ 22 * i9 + 21) → f3 j = f j) → 64 - i < n_r → G 0 0 [(m 0, .inr (8, [.int (zI kc), .ref (m 1), .ref (m 2), .ref (m 3), .ref (m 4), .ref (m 5), .ref (m 6), .int (zI le), .ref (m 7), .ref (m 8), .ref (m 9), .ref (m 10), .ref (m 11), .ref (m 12), .ref (m 13), .ref (m 14), .ref (m 15), .ref (m 16)])), aJ E (m 1) (p 1), aJ E (m 2) (p 2), aJ E (m 3) a, aJ E (m 4) b, aJ E (m 5) c, (m 6, .inl (E.2.2.1, 9, .inl (iv d))), aJ E (m 7) (p 7), aJ E (m 8) (p 8), aJ E (m 9) (p 9), aJ E (m 10) g, aJ E (m 11) (mvp b 32002), aJ E (m 12) x0, aJ E (m 13) (p 13), (m 14, .inl (E.2.2.2.1, 1408, .inr (.inl (qL f3)))), (m 15, .inl (E.2.2.1, 21, .inl (iv rw0))), (m 16, .inl (E.2.2.2.1, 61, .inr (.inl (pL (p 16)))))] [(1, .int (zI y)), (0, .ref (m 0))] 165 [] := by
          intro n_r
          induction n_r with
          | zero =>
            intro y i f3 hy hi7 hA3 hB3 hm_r
            exact absurd hm_r (by omega)
          | succ n_r ih_r =>
            intro y i f3 hy hi7 hA3 hB3 hm_r
            refine g_iload_n C dX8_fill_165 0 rfl ?_
            refine g_bipush C dX8_fill_166 rfl ?_
            refine g_icmp_ge C 195 dX8_fill_168 (by decide) (by omega) (by omega) (by omega) (by omega) (fun c_168 => ?_) (fun c_168 => ?_)
            · refine g_eq (ws' := [(m 0, .inr (8, [.int (zI kc), .ref (m 1), .ref (m 2), .ref (m 3), .ref (m 4), .ref (m 5), .ref (m 6), .int (zI le), .ref (m 7), .ref (m 8), .ref (m 9), .ref (m 10), .ref (m 11), .ref (m 12), .ref (m 13), .ref (m 14), .ref (m 15), .ref (m 16)])), aJ E (m 1) (p 1), aJ E (m 2) (p 2), aJ E (m 3) a, aJ E (m 4) b, aJ E (m 5) c, (m 6, .inl (E.2.2.1, 9, .inl (iv d))), aJ E (m 7) (p 7), aJ E (m 8) (p 8), aJ E (m 9) (p 9), aJ E (m 10) g, aJ E (m 11) (mvp b 32002), aJ E (m 12) x0, aJ E (m 13) (p 13), (m 14, .inl (E.2.2.2.1, 1408, .inr (.inl (pL (fun j => cF (f3 j)))))), (m 15, .inl (E.2.2.1, 21, .inl (iv rw0))), (m 16, .inl (E.2.2.2.1, 61, .inr (.inl (pL (p 16)))))]) (by rw [qL_pL (fl_rng (v := c) (by omega) hr (fun i h9 => hA3 i (by omega)) (fun j h9 => hB3 j (fun i h8 => h9 i (by omega))))]) rfl rfl ?_
              exact hret _ _ _ _ _ dX8_fill_195 (by decide) (by decide) ⟨pl [zr, p 1, p 2, a, b, c, zr, p 7, p 8, p 9, g, mvp b 32002, x0, p 13, zr, zr, p 16], fun j => cF (f3 j), ⟨pl14 (l := [zr, p 1, p 2, a, b, c, zr, p 7, p 8, p 9, g, mvp b 32002, x0, p 13]) rfl (fm Sm_zr (fm (hp.1 1 (by omega)) (fm (hp.1 2 (by omega)) (fm hSa (fm hSb (fm hSc (fm Sm_zr (fm (hp.1 7 (by omega)) (fm (hp.1 8 (by omega)) (fm (hp.1 9 (by omega)) (fm hg.1 (fm (mvp_Sm hSb _) (fm hg.2 (fm (hp.1 13 (by omega)) fn)))))))))))))), hp.2.1, hp.2.2⟩, ⟨rfl, rfl⟩, ⟨ea, eb, ec⟩, fun i hi k hk => by rw [← ea, ← eb]; show cF (f3 (22 * i + k)) = _; rw [hB3 (22 * i + k) (fun i9 h9 => by omega), hT i hi k (by omega), cF_of], fun i hi => by rw [← ec]; show cF (f3 (22 * i + 21)) = _; rw [hA3 i (by omega), cF_of], rfl⟩
            · refine g_aload_n C dX8_fill_171 1 rfl ?_
              refine g_get C 0 rfl rfl 15 (by decide) in_X8_fill_X8 lk_X8_fill_table rfl dX8_fill_172 ?_
              refine g_bipush C dX8_fill_175 rfl ?_
              refine g_iload_n C dX8_fill_177 0 rfl ?_
              refine g_imul C dX8_fill_178 ?_
              refine g_bipush C dX8_fill_179 rfl ?_
              refine g_iadd C dX8_fill_181 ?_
              refine g_aload_n C dX8_fill_182 1 rfl ?_
              refine g_get C 0 rfl rfl 5 (by decide) in_X8_fill_X8 lk_X8_fill_c rfl dX8_fill_183 ?_
              refine g_iload_n C dX8_fill_186 0 rfl ?_
              refine g_lald C 5 i rfl (by omega) (by omega) (by decide) dX8_fill_187 ?_
              refine g_lastZ C [(m 0, .inr (8, [.int (zI kc), .ref (m 1), .ref (m 2), .ref (m 3), .ref (m 4), .ref (m 5), .ref (m 6), .int (zI le), .ref (m 7), .ref (m 8), .ref (m 9), .ref (m 10), .ref (m 11), .ref (m 12), .ref (m 13), .ref (m 14), .ref (m 15), .ref (m 16)])), aJ E (m 1) (p 1), aJ E (m 2) (p 2), aJ E (m 3) a, aJ E (m 4) b, aJ E (m 5) c, (m 6, .inl (E.2.2.1, 9, .inl (iv d))), aJ E (m 7) (p 7), aJ E (m 8) (p 8), aJ E (m 9) (p 9), aJ E (m 10) g, aJ E (m 11) (mvp b 32002), aJ E (m 12) x0, aJ E (m 13) (p 13), (m 14, .inl (E.2.2.2.1, 1408, .inr (.inl (qL (cset f3 (22 * i + 21) ((c i).val : Int)))))), (m 15, .inl (E.2.2.1, 21, .inl (iv rw0))), (m 16, .inl (E.2.2.2.1, 61, .inr (.inl (pL (p 16)))))] 14 (22 * i + 21) rfl (by omega) (by omega) (by decide) dX8_fill_188 rfl ?_
              refine g_iinc C [(1, .int (zI (y + 1))), (0, .ref (m 0))] dX8_fill_189 0 rfl (by decide) rfl ?_
              refine g_goto C 165 dX8_fill_192 (by decide) ?_
              exact ih_r (y + 1) (i + 1) (cset f3 (22 * i + 21) ((c i).val : Int)) (by omega) (by omega) (fl_next (g := f) (v := fun i9 => ((c i9).val : Int)) hA3 _ rfl) (fl_keep hB3 _) (by omega)
        exact lp_r 65 0 0 f rfl (by omega) (fun i9 h9 => absurd h9 (by omega)) (fun j _ => rfl) (by omega)
      · refine g_aload_n C dX8_fill_29 1 rfl ?_
        refine g_get C 0 rfl rfl 11 (by decide) in_X8_fill_X8 lk_X8_fill_g rfl dX8_fill_30 ?_
        refine g_callSCv (n := 1) (wr := [(m 0, .inr (8, [.int (zI kc), .ref (m 1), .ref (m 2), .ref (m 3), .ref (m 4), .ref (m 5), .ref (m 6), .int (zI le), .ref (m 7), .ref (m 8), .ref (m 9), .ref (m 10), .ref (m 11), .ref (m 12), .ref (m 13), .ref (m 14), .ref (m 15), .ref (m 16)])), aJ E (m 1) (p 1), aJ E (m 2) (p 2), aJ E (m 3) a, aJ E (m 4) b, aJ E (m 5) c, (m 6, .inl (E.2.2.1, 9, .inl (iv d))), aJ E (m 7) (p 7), aJ E (m 8) (p 8), aJ E (m 9) (p 9), aJ E (m 11) (mvp b 32002), aJ E (m 12) x0, aJ E (m 13) (p 13), (m 14, .inl (E.2.2.2.1, 1408, .inr (.inl (qL f)))), (m 15, .inl (E.2.2.1, 21, .inl (iv rw0))), (m 16, .inl (E.2.2.2.1, 61, .inr (.inl (pL (p 16)))))]) C (c_X8_empty E l (m 10) g hg.1) gX8_fill_X8_empty rfl (by decide +kernel) rfl (by decide) dX8_fill_33 rfl (Nat.le_of_ble_eq_true rfl) [10] [0, 1, 2, 3, 4, 5, 6, 7, 8, 9, 11, 12, 13, 14, 15, 16] rfl rfl (by decide) (fun w_33 h_33 => ?_)
        obtain rfl := h_33
        refine g_eq (ws' := [(m 0, .inr (8, [.int (zI kc), .ref (m 1), .ref (m 2), .ref (m 3), .ref (m 4), .ref (m 5), .ref (m 6), .int (zI le), .ref (m 7), .ref (m 8), .ref (m 9), .ref (m 10), .ref (m 11), .ref (m 12), .ref (m 13), .ref (m 14), .ref (m 15), .ref (m 16)])), aJ E (m 1) (p 1), aJ E (m 2) (p 2), aJ E (m 3) a, aJ E (m 4) b, aJ E (m 5) c, (m 6, .inl (E.2.2.1, 9, .inl (iv d))), aJ E (m 7) (p 7), aJ E (m 8) (p 8), aJ E (m 9) (p 9), aJ E (m 11) (mvp b 32002), aJ E (m 12) x0, aJ E (m 13) (p 13), (m 14, .inl (E.2.2.2.1, 1408, .inr (.inl (qL f)))), (m 15, .inl (E.2.2.1, 21, .inl (iv rw0))), (m 16, .inl (E.2.2.2.1, 61, .inr (.inl (pL (p 16))))), aJ E (m 10) zr]) rfl rfl rfl ?_
        refine g_eq (ws' := [(m 0, .inr (8, [.int (zI kc), .ref (m 1), .ref (m 2), .ref (m 3), .ref (m 4), .ref (m 5), .ref (m 6), .int (zI le), .ref (m 7), .ref (m 8), .ref (m 9), .ref (m 10), .ref (m 11), .ref (m 12), .ref (m 13), .ref (m 14), .ref (m 15), .ref (m 16)])), aJ E (m 1) (p 1), aJ E (m 2) (p 2), aJ E (m 3) a, aJ E (m 4) b, aJ E (m 5) c, (m 6, .inl (E.2.2.1, 9, .inl (iv d))), aJ E (m 7) (p 7), aJ E (m 8) (p 8), aJ E (m 9) (p 9), aJ E (m 11) (mvp b 32002), aJ E (m 12) x0, aJ E (m 13) (p 13), (m 14, .inl (E.2.2.2.1, 1408, .inr (.inl (qL f)))), (m 15, .inl (E.2.2.1, 21, .inl (iv rw0))), (m 16, .inl (E.2.2.2.1, 61, .inr (.inl (pL (p 16))))), aJ E (m 10) (con 0)]) (by rw [zr_con]) rfl rfl ?_
        refine g_aload_n C dX8_fill_36 1 rfl ?_
        refine g_get C 0 rfl rfl 11 (by decide) in_X8_fill_X8 lk_X8_fill_g rfl dX8_fill_37 ?_
        refine g_iload_n C dX8_fill_40 0 rfl ?_
        refine g_lconst C dX8_fill_41 ?_
        refine g_last C [(m 0, .inr (8, [.int (zI kc), .ref (m 1), .ref (m 2), .ref (m 3), .ref (m 4), .ref (m 5), .ref (m 6), .int (zI le), .ref (m 7), .ref (m 8), .ref (m 9), .ref (m 10), .ref (m 11), .ref (m 12), .ref (m 13), .ref (m 14), .ref (m 15), .ref (m 16)])), aJ E (m 1) (p 1), aJ E (m 2) (p 2), aJ E (m 3) a, aJ E (m 4) b, aJ E (m 5) c, (m 6, .inl (E.2.2.1, 9, .inl (iv d))), aJ E (m 7) (p 7), aJ E (m 8) (p 8), aJ E (m 9) (p 9), aJ E (m 11) (mvp b 32002), aJ E (m 12) x0, aJ E (m 13) (p 13), (m 14, .inl (E.2.2.2.1, 1408, .inr (.inl (qL f)))), (m 15, .inl (E.2.2.1, 21, .inl (iv rw0))), (m 16, .inl (E.2.2.2.1, 61, .inr (.inl (pL (p 16))))), aJ E (m 10) (cset (con 0) k 1)] 16 k 1 rfl (by omega) (by omega) (by decide) (by decide) dX8_fill_42 rfl ?_
        refine g_eq (ws' := [(m 0, .inr (8, [.int (zI kc), .ref (m 1), .ref (m 2), .ref (m 3), .ref (m 4), .ref (m 5), .ref (m 6), .int (zI le), .ref (m 7), .ref (m 8), .ref (m 9), .ref (m 10), .ref (m 11), .ref (m 12), .ref (m 13), .ref (m 14), .ref (m 15), .ref (m 16)])), aJ E (m 1) (p 1), aJ E (m 2) (p 2), aJ E (m 3) a, aJ E (m 4) b, aJ E (m 5) c, (m 6, .inl (E.2.2.1, 9, .inl (iv d))), aJ E (m 7) (p 7), aJ E (m 8) (p 8), aJ E (m 9) (p 9), aJ E (m 11) (mvp b 32002), aJ E (m 12) x0, aJ E (m 13) (p 13), (m 14, .inl (E.2.2.2.1, 1408, .inr (.inl (qL f)))), (m 15, .inl (E.2.2.1, 21, .inl (iv rw0))), (m 16, .inl (E.2.2.2.1, 61, .inr (.inl (pL (p 16))))), aJ E (m 10) (mono k)]) rfl rfl rfl ?_
        refine g_aload_n C dX8_fill_43 1 rfl ?_
        refine g_aload_n C dX8_fill_44 1 rfl ?_
        refine g_get C 0 rfl rfl 12 (by decide) in_X8_fill_X8 lk_X8_fill_h rfl dX8_fill_45 ?_
        refine g_aload_n C dX8_fill_48 1 rfl ?_
        refine g_get C 0 rfl rfl 11 (by decide) in_X8_fill_X8 lk_X8_fill_g rfl dX8_fill_49 ?_
        refine g_callV (n := 2) (wr := [aJ E (m 1) (p 1), aJ E (m 2) (p 2), aJ E (m 3) a, aJ E (m 4) b, aJ E (m 5) c, (m 6, .inl (E.2.2.1, 9, .inl (iv d))), aJ E (m 7) (p 7), aJ E (m 8) (p 8), aJ E (m 9) (p 9), aJ E (m 13) (p 13), (m 14, .inl (E.2.2.2.1, 1408, .inr (.inl (qL f)))), (m 15, .inl (E.2.2.1, 21, .inl (iv rw0))), (m 16, .inl (E.2.2.2.1, 61, .inr (.inl (pL (p 16)))))]) C (c_X8_multiply E l m kc le (m 11) (m 10) (mvp b 32002) (mono k) x0 ⟨mvp_Sm hSb _, mono_Sm (by omega), hg.2⟩ (by rw [mvp_hi hSb, mono_hi (by omega)]; omega)) gX8_fill_X8_multiply rfl (by decide +kernel) rfl (by decide) dX8_fill_52 rfl (Nat.le_of_ble_eq_true rfl) rfl rfl [0, 11, 10, 16] [1, 2, 3, 4, 5, 6, 7, 8, 9, 12, 13, 14, 15] rfl rfl (by decide) (fun w_52 h_52 => ?_)
        obtain rfl := h_52
        refine g_eq (ws' := [aJ E (m 1) (p 1), aJ E (m 2) (p 2), aJ E (m 3) a, aJ E (m 4) b, aJ E (m 5) c, (m 6, .inl (E.2.2.1, 9, .inl (iv d))), aJ E (m 7) (p 7), aJ E (m 8) (p 8), aJ E (m 9) (p 9), aJ E (m 13) (p 13), (m 14, .inl (E.2.2.2.1, 1408, .inr (.inl (qL f)))), (m 15, .inl (E.2.2.1, 21, .inl (iv rw0))), (m 16, .inl (E.2.2.2.1, 61, .inr (.inl (pL (p 16))))), (m 0, .inr (8, [.int (zI kc), .ref (m 1), .ref (m 2), .ref (m 3), .ref (m 4), .ref (m 5), .ref (m 6), .int (zI le), .ref (m 7), .ref (m 8), .ref (m 9), .ref (m 10), .ref (m 11), .ref (m 12), .ref (m 13), .ref (m 14), .ref (m 15), .ref (m 16)])), aJ E (m 12) (conv (mvp b 32002) (mono k)), aJ E (m 11) (mvp b 32002), aJ E (m 10) (mono k)]) rfl rfl rfl ?_
        refine g_iconst C dX8_fill_55 ?_
        refine g_istore_n C [(2, .int (zI 0)), (1, .int (zI x)), (0, .ref (m 0))] dX8_fill_56 (by decide) rfl ?_
        have lp_p : ∀ (n_p : Nat) (y : Int) (i : Nat) (f1 : Nat → Int), (y = (i : Int)) → (i ≤ 64) → (∀ i9 : Nat, i9 < i → f1 (22 * i9 + k) = 32003 - ((conv (mvp b 32002) (mono k) i9).val : Int)) → (∀ j : Nat, (∀ i9 : Nat, i9 < i → j ≠ 22 * i9 + k) → f1 j = f j) → 64 - i < n_p → G 0 0 [(m 0, .inr (8, [.int (zI kc), .ref (m 1), .ref (m 2), .ref (m 3), .ref (m 4), .ref (m 5), .ref (m 6), .int (zI le), .ref (m 7), .ref (m 8), .ref (m 9), .ref (m 10), .ref (m 11), .ref (m 12), .ref (m 13), .ref (m 14), .ref (m 15), .ref (m 16)])), aJ E (m 1) (p 1), aJ E (m 2) (p 2), aJ E (m 3) a, aJ E (m 4) b, aJ E (m 5) c, (m 6, .inl (E.2.2.1, 9, .inl (iv d))), aJ E (m 7) (p 7), aJ E (m 8) (p 8), aJ E (m 9) (p 9), aJ E (m 10) (mono k), aJ E (m 11) (mvp b 32002), aJ E (m 12) (conv (mvp b 32002) (mono k)), aJ E (m 13) (p 13), (m 14, .inl (E.2.2.2.1, 1408, .inr (.inl (qL f1)))), (m 15, .inl (E.2.2.1, 21, .inl (iv rw0))), (m 16, .inl (E.2.2.2.1, 61, .inr (.inl (pL (p 16)))))] [(2, .int (zI y)), (1, .int (zI x)), (0, .ref (m 0))] 57 [] := by
          intro n_p
          induction n_p with
          | zero =>
            intro y i f1 hy hi9 hA1 hB1 hm_p
            exact absurd hm_p (by omega)
          | succ n_p ih_p =>
            intro y i f1 hy hi9 hA1 hB1 hm_p
            refine g_iload_n C dX8_fill_57 0 rfl ?_
            refine g_bipush C dX8_fill_58 rfl ?_
            refine g_icmp_ge C 90 dX8_fill_60 (by decide) (by omega) (by omega) (by omega) (by omega) (fun c_60 => ?_) (fun c_60 => ?_)
            · have hA1 : ∀ i9 : Nat, i9 < 64 → f1 (22 * i9 + k) = 32003 - ((conv (mvp b 32002) (mono k) i9).val : Int) := fun i9 h9 => hA1 i9 (by omega)
              have hB1 : ∀ j : Nat, (∀ i9 : Nat, i9 < 64 → j ≠ 22 * i9 + k) → f1 j = f j := fun j h9 => hB1 j (fun i9 h8 => h9 i9 (by omega))
              refine g_aload_n C dX8_fill_90 2 rfl ?_
              refine g_get C 0 rfl rfl 11 (by decide) in_X8_fill_X8 lk_X8_fill_g rfl dX8_fill_91 ?_
              refine g_lconst C dX8_fill_94 ?_
              refine g_ltop (zL (((1 : Fq)).val : Int)) rfl ?_
              refine g_callSCv (n := 2) (wr := [(m 0, .inr (8, [.int (zI kc), .ref (m 1), .ref (m 2), .ref (m 3), .ref (m 4), .ref (m 5), .ref (m 6), .int (zI le), .ref (m 7), .ref (m 8), .ref (m 9), .ref (m 10), .ref (m 11), .ref (m 12), .ref (m 13), .ref (m 14), .ref (m 15), .ref (m 16)])), aJ E (m 1) (p 1), aJ E (m 2) (p 2), aJ E (m 3) a, aJ E (m 4) b, aJ E (m 5) c, (m 6, .inl (E.2.2.1, 9, .inl (iv d))), aJ E (m 7) (p 7), aJ E (m 8) (p 8), aJ E (m 9) (p 9), aJ E (m 11) (mvp b 32002), aJ E (m 12) (conv (mvp b 32002) (mono k)), aJ E (m 13) (p 13), (m 14, .inl (E.2.2.2.1, 1408, .inr (.inl (qL f1)))), (m 15, .inl (E.2.2.1, 21, .inl (iv rw0))), (m 16, .inl (E.2.2.2.1, 61, .inr (.inl (pL (p 16)))))]) C (c_X8_move E l (m 10) (mono k) 1 (mono_Sm (by omega))) gX8_fill_X8_move rfl (by decide +kernel) rfl (by decide) dX8_fill_95 rfl (Nat.le_of_ble_eq_true rfl) [10] [0, 1, 2, 3, 4, 5, 6, 7, 8, 9, 11, 12, 13, 14, 15, 16] rfl rfl (by decide) (fun w_95 h_95 => ?_)
              obtain rfl := h_95
              refine g_eq (ws' := [(m 0, .inr (8, [.int (zI kc), .ref (m 1), .ref (m 2), .ref (m 3), .ref (m 4), .ref (m 5), .ref (m 6), .int (zI le), .ref (m 7), .ref (m 8), .ref (m 9), .ref (m 10), .ref (m 11), .ref (m 12), .ref (m 13), .ref (m 14), .ref (m 15), .ref (m 16)])), aJ E (m 1) (p 1), aJ E (m 2) (p 2), aJ E (m 3) a, aJ E (m 4) b, aJ E (m 5) c, (m 6, .inl (E.2.2.1, 9, .inl (iv d))), aJ E (m 7) (p 7), aJ E (m 8) (p 8), aJ E (m 9) (p 9), aJ E (m 11) (mvp b 32002), aJ E (m 12) (conv (mvp b 32002) (mono k)), aJ E (m 13) (p 13), (m 14, .inl (E.2.2.2.1, 1408, .inr (.inl (qL f1)))), (m 15, .inl (E.2.2.1, 21, .inl (iv rw0))), (m 16, .inl (E.2.2.2.1, 61, .inr (.inl (pL (p 16))))), aJ E (m 10) (mvp (mono k) 1)]) rfl rfl rfl ?_
              refine g_aload_n C dX8_fill_98 2 rfl ?_
              refine g_aload_n C dX8_fill_99 2 rfl ?_
              refine g_get C 0 rfl rfl 3 (by decide) in_X8_fill_X8 lk_X8_fill_a rfl dX8_fill_100 ?_
              refine g_aload_n C dX8_fill_103 2 rfl ?_
              refine g_get C 0 rfl rfl 11 (by decide) in_X8_fill_X8 lk_X8_fill_g rfl dX8_fill_104 ?_
              refine g_callV (n := 2) (wr := [aJ E (m 1) (p 1), aJ E (m 2) (p 2), aJ E (m 4) b, aJ E (m 5) c, (m 6, .inl (E.2.2.1, 9, .inl (iv d))), aJ E (m 7) (p 7), aJ E (m 8) (p 8), aJ E (m 9) (p 9), aJ E (m 11) (mvp b 32002), aJ E (m 13) (p 13), (m 14, .inl (E.2.2.2.1, 1408, .inr (.inl (qL f1)))), (m 15, .inl (E.2.2.1, 21, .inl (iv rw0))), (m 16, .inl (E.2.2.2.1, 61, .inr (.inl (pL (p 16)))))]) C (c_X8_multiply E l m kc le (m 3) (m 10) a (mvp (mono k) 1) (conv (mvp b 32002) (mono k)) ⟨hSa, mvp_Sm (mono_Sm (by omega)) _, conv_Sm (mvp_Sm hSb _) (mono_Sm (by omega)) (by rw [mvp_hi hSb, mono_hi (by omega)]; omega)⟩ (by rw [mvp_hi (mono_Sm (by omega)), mono_hi (by omega)]; omega)) gX8_fill_X8_multiply rfl (by decide +kernel) rfl (by decide) dX8_fill_107 rfl (Nat.le_of_ble_eq_true rfl) rfl rfl [0, 11, 3, 16] [1, 2, 4, 5, 6, 7, 8, 9, 10, 12, 13, 14, 15] rfl rfl (by decide) (fun w_107 h_107 => ?_)
              obtain rfl := h_107
              refine g_eq (ws' := [aJ E (m 1) (p 1), aJ E (m 2) (p 2), aJ E (m 4) b, aJ E (m 5) c, (m 6, .inl (E.2.2.1, 9, .inl (iv d))), aJ E (m 7) (p 7), aJ E (m 8) (p 8), aJ E (m 9) (p 9), aJ E (m 11) (mvp b 32002), aJ E (m 13) (p 13), (m 14, .inl (E.2.2.2.1, 1408, .inr (.inl (qL f1)))), (m 15, .inl (E.2.2.1, 21, .inl (iv rw0))), (m 16, .inl (E.2.2.2.1, 61, .inr (.inl (pL (p 16))))), (m 0, .inr (8, [.int (zI kc), .ref (m 1), .ref (m 2), .ref (m 3), .ref (m 4), .ref (m 5), .ref (m 6), .int (zI le), .ref (m 7), .ref (m 8), .ref (m 9), .ref (m 10), .ref (m 11), .ref (m 12), .ref (m 13), .ref (m 14), .ref (m 15), .ref (m 16)])), aJ E (m 12) (conv a (mvp (mono k) 1)), aJ E (m 3) a, aJ E (m 10) (mvp (mono k) 1)]) rfl rfl rfl ?_
              refine g_iconst C dX8_fill_110 ?_
              refine g_istore_n C [(2, .int (zI 0)), (1, .int (zI x)), (0, .ref (m 0))] dX8_fill_111 (by decide) rfl ?_
              have lp_q : ∀ (n_q : Nat) (y : Int) (i : Nat) (f2 : Nat → Int), (y = (i : Int)) → (i ≤ 64) → (∀ i9 : Nat, i9 < i → f2 (22 * i9 + k) = ((Tc a b k i9).val : Int)) → (∀ j : Nat, (∀ i9 : Nat, i9 < i → j ≠ 22 * i9 + k) → f2 j = f1 j) → 64 - i < n_q → G 0 0 [(m 0, .inr (8, [.int (zI kc), .ref (m 1), .ref (m 2), .ref (m 3), .ref (m 4), .ref (m 5), .ref (m 6), .int (zI le), .ref (m 7), .ref (m 8), .ref (m 9), .ref (m 10), .ref (m 11), .ref (m 12), .ref (m 13), .ref (m 14), .ref (m 15), .ref (m 16)])), aJ E (m 1) (p 1), aJ E (m 2) (p 2), aJ E (m 3) a, aJ E (m 4) b, aJ E (m 5) c, (m 6, .inl (E.2.2.1, 9, .inl (iv d))), aJ E (m 7) (p 7), aJ E (m 8) (p 8), aJ E (m 9) (p 9), aJ E (m 10) (mvp (mono k) 1), aJ E (m 11) (mvp b 32002), aJ E (m 12) (conv a (mvp (mono k) 1)), aJ E (m 13) (p 13), (m 14, .inl (E.2.2.2.1, 1408, .inr (.inl (qL f2)))), (m 15, .inl (E.2.2.1, 21, .inl (iv rw0))), (m 16, .inl (E.2.2.2.1, 61, .inr (.inl (pL (p 16)))))] [(2, .int (zI y)), (1, .int (zI x)), (0, .ref (m 0))] 112 [] := by
                intro n_q
                induction n_q with
                | zero =>
                  intro y i f2 hy hi8 hA2 hB2 hm_q
                  exact absurd hm_q (by omega)
                | succ n_q ih_q =>
                  intro y i f2 hy hi8 hA2 hB2 hm_q
                  refine g_iload_n C dX8_fill_112 0 rfl ?_
                  refine g_bipush C dX8_fill_113 rfl ?_
                  refine g_icmp_ge C 157 dX8_fill_115 (by decide) (by omega) (by omega) (by omega) (by omega) (fun c_115 => ?_) (fun c_115 => ?_)
                  · refine g_iinc C [(1, .int (zI (x + 1))), (2, .int (zI y)), (0, .ref (m 0))] dX8_fill_157 1 rfl (by decide) rfl ?_
                    refine g_goto C 23 dX8_fill_160 (by decide) ?_
                    refine g_lsub C [0, 2] rfl ?_
                    exact ih_o (x + 1) (k + 1) f2 (mvp (mono k) 1) (conv a (mvp (mono k) 1)) (by omega) (by omega) ⟨mvp_Sm (mono_Sm (by omega)) _, conv_Sm hSa (mvp_Sm (mono_Sm (by omega)) _) (by rw [mvp_hi (mono_Sm (by omega)), mono_hi (by omega)]; omega)⟩ (fl_rng (v := Tc a b k) (by omega) hr (fun i h9 => hA2 i (by omega)) (fun j h9 => by rw [hB2 j (fun i h8 => h9 i (by omega)), hB1 j (fun i h8 => h9 i (by omega))])) (fun i hi k9 h9 => by by_cases e9 : k9 = k; (rw [e9]; exact hA2 i (by omega)); (rw [hB2 _ (fun i9 h8 => by omega), hB1 _ (fun i9 h8 => by omega)]; exact hT i hi k9 (by omega))) (by omega)
                  · refine g_aload_n C dX8_fill_118 2 rfl ?_
                    refine g_get C 0 rfl rfl 15 (by decide) in_X8_fill_X8 lk_X8_fill_table rfl dX8_fill_119 ?_
                    refine g_bipush C dX8_fill_122 rfl ?_
                    refine g_iload_n C dX8_fill_124 0 rfl ?_
                    refine g_imul C dX8_fill_125 ?_
                    refine g_iload_n C dX8_fill_126 1 rfl ?_
                    refine g_iadd C dX8_fill_127 ?_
                    refine g_aload_n C dX8_fill_128 2 rfl ?_
                    refine g_get C 0 rfl rfl 15 (by decide) in_X8_fill_X8 lk_X8_fill_table rfl dX8_fill_129 ?_
                    refine g_bipush C dX8_fill_132 rfl ?_
                    refine g_iload_n C dX8_fill_134 0 rfl ?_
                    refine g_imul C dX8_fill_135 ?_
                    refine g_iload_n C dX8_fill_136 1 rfl ?_
                    refine g_iadd C dX8_fill_137 ?_
                    refine g_laldZ C 14 (22 * i + k) rfl (by omega) (by omega) (by decide) dX8_fill_138 ?_
                    refine g_aload_n C dX8_fill_139 2 rfl ?_
                    refine g_get C 0 rfl rfl 13 (by decide) in_X8_fill_X8 lk_X8_fill_x rfl dX8_fill_140 ?_
                    refine g_iload_n C dX8_fill_143 0 rfl ?_
                    refine g_lald C 12 i rfl (by omega) (by omega) (by decide) dX8_fill_144 ?_
                    have h45 : f2 (22 * i + k) = 32003 - ((conv (mvp b 32002) (mono k) i).val : Int) := by rw [hB2 _ (fun i9 h9 => by omega)]; exact hA1 i (by omega)
                    have h46 := (conv (mvp b 32002) (mono k) i).isLt
                    have h47 := (conv a (mvp (mono k) 1) i).isLt
                    refine g_jadd C dX8_fill_145 ?_
                    refine g_ldc2 C 32003 lk_X8_fill_l32003 dX8_fill_146 ?_
                    refine g_lmod C dX8_fill_149 (by omega) (by omega) ?_
                    refine g_ltop (zL ((Tc a b k i).val : Int)) (congrArg (fun u : Fq => zL (u.val : Int)) (Tc_val h45)) ?_
                    refine g_lastZ C [(m 0, .inr (8, [.int (zI kc), .ref (m 1), .ref (m 2), .ref (m 3), .ref (m 4), .ref (m 5), .ref (m 6), .int (zI le), .ref (m 7), .ref (m 8), .ref (m 9), .ref (m 10), .ref (m 11), .ref (m 12), .ref (m 13), .ref (m 14), .ref (m 15), .ref (m 16)])), aJ E (m 1) (p 1), aJ E (m 2) (p 2), aJ E (m 3) a, aJ E (m 4) b, aJ E (m 5) c, (m 6, .inl (E.2.2.1, 9, .inl (iv d))), aJ E (m 7) (p 7), aJ E (m 8) (p 8), aJ E (m 9) (p 9), aJ E (m 10) (mvp (mono k) 1), aJ E (m 11) (mvp b 32002), aJ E (m 12) (conv a (mvp (mono k) 1)), aJ E (m 13) (p 13), (m 14, .inl (E.2.2.2.1, 1408, .inr (.inl (qL (cset f2 (22 * i + k) ((Tc a b k i).val : Int)))))), (m 15, .inl (E.2.2.1, 21, .inl (iv rw0))), (m 16, .inl (E.2.2.2.1, 61, .inr (.inl (pL (p 16)))))] 14 (22 * i + k) rfl (by omega) (by omega) (by decide) dX8_fill_150 rfl ?_
                    refine g_iinc C [(2, .int (zI (y + 1))), (1, .int (zI x)), (0, .ref (m 0))] dX8_fill_151 0 rfl (by decide) rfl ?_
                    refine g_goto C 112 dX8_fill_154 (by decide) ?_
                    exact ih_q (y + 1) (i + 1) (cset f2 (22 * i + k) ((Tc a b k i).val : Int)) (by omega) (by omega) (fl_next (g := f) (v := fun i9 => ((Tc a b k i9).val : Int)) hA2 _ rfl) (fl_keep hB2 _) (by omega)
              refine g_wsub (ws' := [(m 0, .inr (8, [.int (zI kc), .ref (m 1), .ref (m 2), .ref (m 3), .ref (m 4), .ref (m 5), .ref (m 6), .int (zI le), .ref (m 7), .ref (m 8), .ref (m 9), .ref (m 10), .ref (m 11), .ref (m 12), .ref (m 13), .ref (m 14), .ref (m 15), .ref (m 16)])), aJ E (m 1) (p 1), aJ E (m 2) (p 2), aJ E (m 3) a, aJ E (m 4) b, aJ E (m 5) c, (m 6, .inl (E.2.2.1, 9, .inl (iv d))), aJ E (m 7) (p 7), aJ E (m 8) (p 8), aJ E (m 9) (p 9), aJ E (m 10) (mvp (mono k) 1), aJ E (m 11) (mvp b 32002), aJ E (m 12) (conv a (mvp (mono k) 1)), aJ E (m 13) (p 13), (m 14, .inl (E.2.2.2.1, 1408, .inr (.inl (qL f1)))), (m 15, .inl (E.2.2.1, 21, .inl (iv rw0))), (m 16, .inl (E.2.2.2.1, 61, .inr (.inl (pL (p 16)))))]) C [13, 0, 1, 15, 2, 3, 4, 5, 6, 7, 16, 8, 14, 9, 10, 11, 12] (by decide) rfl rfl ?_
              exact lp_q 65 0 0 f1 rfl (by omega) (fun i9 h9 => absurd h9 (by omega)) (fun j _ => rfl) (by omega)
            · refine g_aload_n C dX8_fill_63 2 rfl ?_
              refine g_get C 0 rfl rfl 15 (by decide) in_X8_fill_X8 lk_X8_fill_table rfl dX8_fill_64 ?_
              refine g_bipush C dX8_fill_67 rfl ?_
              refine g_iload_n C dX8_fill_69 0 rfl ?_
              refine g_imul C dX8_fill_70 ?_
              refine g_iload_n C dX8_fill_71 1 rfl ?_
              refine g_iadd C dX8_fill_72 ?_
              refine g_ldc2 C 32003 lk_X8_fill_l32003 dX8_fill_73 ?_
              refine g_aload_n C dX8_fill_76 2 rfl ?_
              refine g_get C 0 rfl rfl 13 (by decide) in_X8_fill_X8 lk_X8_fill_x rfl dX8_fill_77 ?_
              refine g_iload_n C dX8_fill_80 0 rfl ?_
              refine g_lald C 12 i rfl (by omega) (by omega) (by decide) dX8_fill_81 ?_
              refine g_jsub C dX8_fill_82 ?_
              refine g_lastZ C [(m 0, .inr (8, [.int (zI kc), .ref (m 1), .ref (m 2), .ref (m 3), .ref (m 4), .ref (m 5), .ref (m 6), .int (zI le), .ref (m 7), .ref (m 8), .ref (m 9), .ref (m 10), .ref (m 11), .ref (m 12), .ref (m 13), .ref (m 14), .ref (m 15), .ref (m 16)])), aJ E (m 1) (p 1), aJ E (m 2) (p 2), aJ E (m 3) a, aJ E (m 4) b, aJ E (m 5) c, (m 6, .inl (E.2.2.1, 9, .inl (iv d))), aJ E (m 7) (p 7), aJ E (m 8) (p 8), aJ E (m 9) (p 9), aJ E (m 10) (mono k), aJ E (m 11) (mvp b 32002), aJ E (m 12) (conv (mvp b 32002) (mono k)), aJ E (m 13) (p 13), (m 14, .inl (E.2.2.2.1, 1408, .inr (.inl (qL (cset f1 (22 * i + k) (32003 - (((conv (mvp b 32002) (mono k)) i).val : Int))))))), (m 15, .inl (E.2.2.1, 21, .inl (iv rw0))), (m 16, .inl (E.2.2.2.1, 61, .inr (.inl (pL (p 16)))))] 14 (22 * i + k) rfl (by omega) (by omega) (by decide) dX8_fill_83 rfl ?_
              refine g_iinc C [(2, .int (zI (y + 1))), (1, .int (zI x)), (0, .ref (m 0))] dX8_fill_84 0 rfl (by decide) rfl ?_
              refine g_goto C 57 dX8_fill_87 (by decide) ?_
              exact ih_p (y + 1) (i + 1) (cset f1 (22 * i + k) (32003 - ((conv (mvp b 32002) (mono k) i).val : Int))) (by omega) (by omega) (fl_next (g := f) (v := fun i9 => 32003 - ((conv (mvp b 32002) (mono k) i9).val : Int)) hA1 _ rfl) (fl_keep hB1 _) (by omega)
        refine g_wsub (ws' := [(m 0, .inr (8, [.int (zI kc), .ref (m 1), .ref (m 2), .ref (m 3), .ref (m 4), .ref (m 5), .ref (m 6), .int (zI le), .ref (m 7), .ref (m 8), .ref (m 9), .ref (m 10), .ref (m 11), .ref (m 12), .ref (m 13), .ref (m 14), .ref (m 15), .ref (m 16)])), aJ E (m 1) (p 1), aJ E (m 2) (p 2), aJ E (m 3) a, aJ E (m 4) b, aJ E (m 5) c, (m 6, .inl (E.2.2.1, 9, .inl (iv d))), aJ E (m 7) (p 7), aJ E (m 8) (p 8), aJ E (m 9) (p 9), aJ E (m 10) (mono k), aJ E (m 11) (mvp b 32002), aJ E (m 12) (conv (mvp b 32002) (mono k)), aJ E (m 13) (p 13), (m 14, .inl (E.2.2.2.1, 1408, .inr (.inl (qL f)))), (m 15, .inl (E.2.2.1, 21, .inl (iv rw0))), (m 16, .inl (E.2.2.2.1, 61, .inr (.inl (pL (p 16)))))]) C [13, 0, 1, 2, 3, 4, 5, 6, 7, 8, 16, 15, 14, 9, 10, 11, 12] (by decide) rfl rfl ?_
        exact lp_p 65 0 0 f rfl (by omega) (fun i9 h9 => absurd h9 (by omega)) (fun j _ => rfl) (by omega)
  refine g_wsub (ws' := [(m 0, .inr (8, [.int (zI kc), .ref (m 1), .ref (m 2), .ref (m 3), .ref (m 4), .ref (m 5), .ref (m 6), .int (zI le), .ref (m 7), .ref (m 8), .ref (m 9), .ref (m 10), .ref (m 11), .ref (m 12), .ref (m 13), .ref (m 14), .ref (m 15), .ref (m 16)])), aJ E (m 1) (p 1), aJ E (m 2) (p 2), aJ E (m 3) a, aJ E (m 4) b, aJ E (m 5) c, (m 6, .inl (E.2.2.1, 9, .inl (iv d))), aJ E (m 7) (p 7), aJ E (m 8) (p 8), aJ E (m 9) (p 9), aJ E (m 10) (p 10), aJ E (m 11) (mvp b 32002), aJ E (m 12) (p 12), aJ E (m 13) (p 13), (m 14, .inl (E.2.2.2.1, 1408, .inr (.inl (qL (fun j => ((t j).val : Int)))))), (m 15, .inl (E.2.2.1, 21, .inl (iv rw0))), (m 16, .inl (E.2.2.2.1, 61, .inr (.inl (pL (p 16)))))]) C [0, 1, 2, 3, 15, 4, 5, 6, 7, 8, 9, 16, 10, 11, 12, 13, 14] (by decide) rfl rfl ?_
  exact lp_o 65 0 0 (fun j => ((t j).val : Int)) (p 10) (p 12) rfl (by omega) ⟨hp.1 10 (by omega), hp.1 12 (by omega)⟩ (fun j => by show 0 ≤ ((t j).val : Int) ∧ ((t j).val : Int) < 32003; have := (t j).isLt; omega) (fun i hi k9 h9 => absurd h9 (by omega)) (by omega)
