/-! the law's loop -/
set_option maxHeartbeats 4000000 in
theorem law_loop {G : Gt} {E : ev} {l : Launch} {nx : String} {b L : Nat} {xs : Nat → Int32} (CL : OkL G E l nx b L xs) (hl : l.stackTraces = false) (hL : L ≤ 2560) {c : Nat → Nat} {F : Nat → Nat × Nat × Nat × Nat × Nat} {pr : Nat → Option Nat} (hpr : ∀ j : Nat, j < 21 → pr j = some (F j).1) {m : Nat → Nat} {h : Nat} :
    ∀ (n j : Nat) (f : Nat → Int) (kc : Int) (wc wm : va_W), Both E c F pr m kc wc wm → L < 5 * j + 5 * n → 5 * j ≤ L → G (168 + 2 * j) (4549 + 12 * j) (oc E h f :: (wc ++ wm)) [(4, .int (zI ((5 * j : Nat) : Int))), (3, .ref h), (2, .ref (m 0)), (1, .ref (c 0)), (0, .ref b)] 23 [] := by
  intro n
  induction n with
  | zero =>
    intro j f kc wc wm hB hn hj
    exact absurd hn (by omega)
  | succ n ih =>
    intro j f kc wc wm hB hn hj
    have C := CL.ok
    refine g_iload C dL_law_23 0 rfl ?_
    refine g_aload_n C dL_law_25 4 rfl ?_
    refine g_slen CL dL_law_26 ?_
    refine g_iconst C dL_law_27 ?_
    refine g_isub C dL_law_28 ?_
    refine g_icmp_gt C 927 dL_law_29 (by decide) (by omega) (by omega) (by omega) (by omega) (fun c1 => ?_) (fun c1 => ?_)
    · refine g_iconst C dL_law_927 ?_
      exact g_lawret CL dL_law_928 (by omega) (by omega)
    · have hj5 : 5 * j + 5 ≤ L := by omega
      have next : ∀ (kc2 : Int) (f2 : Nat → Int) (wc2 wm2 : va_W), Both E c F pr m kc2 wc2 wm2 → G (168 + 2 * j + 2) (4549 + 12 * j + 12) (oc E h f2 :: (wc2 ++ wm2)) [(4, .int (zI ((5 * j : Nat) : Int))), (3, .ref h), (2, .ref (m 0)), (1, .ref (c 0)), (0, .ref b)] 921 [] := fun kc2 f2 wc2 wm2 hB2 => by
        refine g_iinc C [(4, .int (zI (((5 * j : Nat) : Int) + 5))), (3, .ref h), (2, .ref (m 0)), (1, .ref (c 0)), (0, .ref b)] dL_law_921 0 rfl (by decide) rfl ?_
        refine g_goto C 23 dL_law_924 (by decide) ?_
        have h9 := ih (j + 1) f2 kc2 wc2 wm2 hB2 (by omega) (by omega)
        rw [show 168 + 2 * (j + 1) = 168 + 2 * j + 2 by omega, show 4549 + 12 * (j + 1) = 4549 + 12 * j + 12 by omega, show ((5 * (j + 1) : Nat) : Int) = ((5 * j : Nat) : Int) + 5 by omega] at h9
        exact h9
      refine g_aload_n C dL_law_32 4 rfl ?_
      refine g_iload C dL_law_33 0 rfl ?_
      refine g_sld CL (5 * j) rfl (by omega) hL dL_law_35 ?_
      refine g_bipush C dL_law_36 rfl ?_
      refine g_and15 C dL_law_38 (fun r r1 r2 => ?_)
      have hr : r = 0 ∨ r = 1 ∨ r = 2 ∨ r = 3 ∨ r = 4 ∨ r = 5 ∨ r = 6 ∨ r = 7 ∨ r = 8 ∨ r = 9 ∨ r = 10 ∨ r = 11 ∨ r = 12 ∨ 12 < r := by omega
      rcases hr with rfl | rfl | rfl | rfl | rfl | rfl | rfl | rfl | rfl | rfl | rfl | rfl | rfl | hr
      · exact g_tabIn C 65 104 dL_law_39 (by omega) (by omega) (by omega) (by omega) rfl rfl (lw_put CL hl hL hpr hB j hj5 next)
      · exact g_tabIn C 200 239 dL_law_39 (by omega) (by omega) (by omega) (by omega) rfl rfl (lw_at CL hl hL hpr hB j hj5 next)
      · exact g_tabIn C 284 323 dL_law_39 (by omega) (by omega) (by omega) (by omega) rfl rfl (lw_found CL hl hL hpr hB j hj5 next)
      · exact g_tabIn C 340 379 dL_law_39 (by omega) (by omega) (by omega) (by omega) rfl rfl (lw_degree CL hl hL hpr hB j hj5 next)
      · exact g_tabIn C 396 435 dL_law_39 (by omega) (by omega) (by omega) (by omega) rfl rfl (lw_split CL hl hL hpr hB j hj5 next)
      · exact g_tabIn C 464 503 dL_law_39 (by omega) (by omega) (by omega) (by omega) rfl rfl (lw_run CL hl hL hpr hB j hj5 next)
      · exact g_tabIn C 508 547 dL_law_39 (by omega) (by omega) (by omega) (by omega) rfl rfl (lw_answer CL hl hL hpr hB j hj5 next)
      · exact g_tabIn C 564 603 dL_law_39 (by omega) (by omega) (by omega) (by omega) rfl rfl (lw_closed CL hl hL hpr hB j hj5 next)
      · exact g_tabIn C 648 687 dL_law_39 (by omega) (by omega) (by omega) (by omega) rfl rfl (lw_value CL hl hL hpr hB j hj5 next)
      · exact g_tabIn C 736 775 dL_law_39 (by omega) (by omega) (by omega) (by omega) rfl rfl (lw_term CL hl hL hpr hB j hj5 next)
      · exact g_tabIn C 792 831 dL_law_39 (by omega) (by omega) (by omega) (by omega) rfl rfl (lw_sum CL hl hL hpr hB j hj5 next)
      · exact g_tabIn C 848 887 dL_law_39 (by omega) (by omega) (by omega) (by omega) rfl rfl (lw_shift CL hl hL hpr hB j hj5 next)
      · exact g_tabIn C 871 910 dL_law_39 (by omega) (by omega) (by omega) (by omega) rfl rfl (lw_clear CL hl hL hpr hB j hj5 next)
      · exact g_tabOut C 921 dL_law_39 (by omega) (by omega) hr rfl (g_wide C (by omega) (by omega) (next kc f wc wm hB))
/-! from the start to the loop -/
theorem lk_law_arr : Cond.arrayClass .long ∈ wsL_law := by decide +kernel
theorem nw_law_7 : Cond.classLink RL 8 RX7 ∈ wsL_law ∧ Cond.instantiable RX7 7 ∈ wsL_law ∧ Cond.initialized RX7 ∈ wsL_law := by decide +kernel
theorem nw_law_8 : Cond.classLink RL 55 RX8 ∈ wsL_law ∧ Cond.instantiable RX8 18 ∈ wsL_law ∧ Cond.initialized RX8 ∈ wsL_law := by decide +kernel
theorem ml_law_7 : Cond.methodLink RL 54 yX7_init ∈ wsL_law := by decide +kernel
theorem ml_law_8 : Cond.methodLink RL 57 yX8_init ∈ wsL_law := by decide +kernel
theorem im_law_7 : Cond.instanceMethod yX7_init ∈ wsL_law ∧ Cond.initialized yX7_init.cls ∈ wsL_law ∧ yX7_init.name = "<init>" := by decide +kernel
theorem im_law_8 : Cond.instanceMethod yX8_init ∈ wsL_law ∧ Cond.initialized yX8_init.cls ∈ wsL_law ∧ yX8_init.name = "<init>" := by decide +kernel
set_option maxHeartbeats 4000000 in
theorem law_walk {G : Gt} {E : ev} {l : Launch} {nx : String} {b L : Nat} {xs : Nat → Int32} (CL : OkL G E l nx b L xs) (hl : l.stackTraces = false) (hL : L ≤ 2560) : G 0 0 [] [(0, .ref b)] 0 [] := by
  have C := CL.ok
  refine g_new (ci := 7) C [.null, .null, .null, .null, .null, .null, .null] tyX7 tyX7_ok rfl inlX7 nw_law_7 (by decide +kernel) (by decide) dL_law_0 (fun q_0 => ?_)
  refine g_eq (ws' := [(q_0, .inr (7, [.null, .null, .null, .null, .null, .null, .null]))]) rfl rfl rfl ?_
  refine g_dup C dL_law_3 rfl ?_
  refine g_callI (n := 0) (wr := []) C (c_X7_init E l q_0) (Or.inr ml_law_7) gL_law_X7_init im_law_7 rfl (by decide +kernel) rfl (by decide) dL_law_4 rfl (Nat.le_of_ble_eq_true rfl) [0] [] rfl rfl (by decide) (fun wc h_4 => ?_)
  obtain ⟨c, F, pr, hpr, rfl, hC⟩ := h_4
  refine g_astore_n C [(1, .ref (c 0)), (0, .ref b)] dL_law_7 (by decide) rfl ?_
  refine g_in C (fun G2 C2 back2 => ?_)
  refine g_new (ci := 8) C2 [.int (zI 0), .null, .null, .null, .null, .null, .null, .int (zI 0), .null, .null, .null, .null, .null, .null, .null, .null, .null, .null] tyX8 tyX8_ok rfl inlX8 nw_law_8 (by decide +kernel) (by decide) dL_law_8 (fun q_8 => ?_)
  refine g_eq (ws' := [(q_8, .inr (8, [.int (zI 0), .null, .null, .null, .null, .null, .null, .int (zI 0), .null, .null, .null, .null, .null, .null, .null, .null, .null, .null]))]) rfl rfl rfl ?_
  refine g_dup C2 dL_law_11 rfl ?_
  refine g_callI (n := 0) (wr := []) C2 (c_X8_init E l q_8) (Or.inr ml_law_8) gL_law_X8_init im_law_8 rfl (by decide +kernel) rfl (by decide) dL_law_12 rfl (Nat.le_of_ble_eq_true rfl) [0] [] rfl rfl (by decide) (fun wm h_12 => ?_)
  obtain ⟨m, rfl, hM⟩ := h_12
  refine g_astore_n C2 [(2, .ref (m 0)), (1, .ref (c 0)), (0, .ref b)] dL_law_15 (by decide) rfl ?_
  refine g_iconst C2 dL_law_16 ?_
  refine g_newaJ C2 1 (qL (fun _ => 0)) rfl lk_law_arr rfl (by decide) (by decide) dL_law_17 (fun h => ?_)
  refine g_astore_n C2 [(3, .ref h), (2, .ref (m 0)), (1, .ref (c 0)), (0, .ref b)] dL_law_19 (by decide) rfl ?_
  refine g_iconst C2 dL_law_20 ?_
  refine g_istore C2 [(4, .int (zI 0)), (3, .ref h), (2, .ref (m 0)), (1, .ref (c 0)), (0, .ref b)] dL_law_21 (by decide) rfl ?_
  refine back2 _ _ _ _ _ _ ?_
  refine g_perm (ws' := oc E h (fun _ => 0) :: (wc ++ wm)) C (by rw [List.nil_append, List.append_assoc]; exact pm2 _ _ _) ?_
  exact law_loop CL hl hL hpr 513 0 (fun _ => 0) 0 wc wm ⟨_, _, hC, hM⟩ (by omega) (by omega)
