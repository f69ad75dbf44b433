theorem sc_in {g c : Po} {u : Fq} {k : Nat} (hc : ∀ j : Nat, c j = if j < k then g j * u else g j) (hz : ∀ j : Nat, k ≤ j → g j = 0) : c = sc g u := by
  funext j
  rw [hc j]; unfold sc
  split
  · rfl
  · rw [hz j (by omega)]; grind
theorem sc_next {g c : Po} {u v : Fq} {k : Nat} (hc : ∀ j : Nat, c j = if j < k then g j * u else g j) (hv : v = g k * u) (j : Nat) : cset c k v j = if j < k + 1 then g j * u else g j := by
  unfold cset
  by_cases e : j = k
  · rw [if_pos e, if_pos (by omega), hv, e]
  · rw [if_neg e, hc j]
    by_cases g2 : j < k
    · rw [if_pos g2, if_pos (by omega)]
    · rw [if_neg g2, if_neg (by omega)]
theorem cp_next {a b c : Po} {v : Fq} {k : Nat} (hc : ∀ j : Nat, c j = if j < k then b j else a j) (hv : v = b k) (j : Nat) : cset c k v j = if j < k + 1 then b j else a j := by
  unfold cset
  by_cases e : j = k
  · rw [if_pos e, if_pos (by omega), hv, e]
  · rw [if_neg e, hc j]
    by_cases g2 : j < k
    · rw [if_pos g2, if_pos (by omega)]
    · rw [if_neg g2, if_neg (by omega)]
theorem cp_all {a b c : Po} (hS : Sm a ∧ Sm b) {k : Nat} (hk : 64 ≤ k) (hc : ∀ j : Nat, c j = if j < k then b j else a j) : c = b := funext (fun j => by
  rw [hc j]; split
  · rfl
  · rw [hS.1 j (by omega), hS.2 j (by omega)])
theorem in_X8_common_X8 : ∀ w ∈ u_ws RX8 TX8 18, w ∈ wsX8_common := by decide +kernel
theorem lk_X8_common_h : Cond.fieldLink yX8_common.cls 41 (TX8 12).1 (TX8 12).2.1 (TX8 12).2.2.1 ∈ wsX8_common := by decide +kernel
theorem lk_X8_common_g : Cond.fieldLink yX8_common.cls 38 (TX8 11).1 (TX8 11).2.1 (TX8 11).2.2.1 ∈ wsX8_common := by decide +kernel
theorem lk_X8_common_l32003 : Jvm.Cond.constantLong yX8_common.cls 63 (zL 32003) ∈ wsX8_common := by decide +kernel
set_option maxHeartbeats 4000000 in
set_option maxRecDepth 100000 in
theorem c_X8_common (E : ev) (l : Launch) (m : Nat → Nat) (kc le : Int) (a b g0 : Po) (hS : Sm a ∧ Sm b ∧ Sm g0) (ha : 0 ≤ hi a) : Mv E l yX8_common wsX8_common { frames := 2, cells := 0, slots := 0, locals := 60 } [.ref (m 0)] [(m 0, .inr (8, [.int (zI kc), .ref (m 1), .ref (m 2), .ref (m 3), .ref (m 4), .ref (m 5), .ref (m 6), .int (zI le), .ref (m 7), .ref (m 8), .ref (m 9), .ref (m 10), .ref (m 11), .ref (m 12), .ref (m 13), .ref (m 14), .ref (m 15), .ref (m 16)])), aJ E (m 10) a, aJ E (m 11) b, aJ E (m 13) g0] (fun w => ∃ h1 q1 : Po, (Sm h1 ∧ Sm q1) ∧ w = [(m 0, .inr (8, [.int (zI kc), .ref (m 1), .ref (m 2), .ref (m 3), .ref (m 4), .ref (m 5), .ref (m 6), .int (zI le), .ref (m 7), .ref (m 8), .ref (m 9), .ref (m 10), .ref (m 11), .ref (m 12), .ref (m 13), .ref (m 14), .ref (m 15), .ref (m 16)])), aJ E (m 10) (gm a b), aJ E (m 11) h1, aJ E (m 13) q1]) 0 0 := by
  refine enter_v (cc := cX8_common) (nL := 5) (by decide) rfl (Nat.le_of_ble_eq_true rfl) (fun G C hret => ?_)
  show G 0 0 [(m 0, .inr (8, [.int (zI kc), .ref (m 1), .ref (m 2), .ref (m 3), .ref (m 4), .ref (m 5), .ref (m 6), .int (zI le), .ref (m 7), .ref (m 8), .ref (m 9), .ref (m 10), .ref (m 11), .ref (m 12), .ref (m 13), .ref (m 14), .ref (m 15), .ref (m 16)])), aJ E (m 10) a, aJ E (m 11) b, aJ E (m 13) g0] [(0, .ref (m 0))] 0 []
  have hla := hi_lo a
  have hlb := hi_lo b
  have lp_o : ∀ (n_o : Nat) (n : Nat) (u : Po) (v : Po) (q : Po), (eu n u v = eu 66 a b) → (hi v + 1 < (n : Int)) → (0 ≤ hi u) → (Sm u ∧ Sm v ∧ Sm q) → (hi v + 1).toNat < n_o → G 0 0 [(m 0, .inr (8, [.int (zI kc), .ref (m 1), .ref (m 2), .ref (m 3), .ref (m 4), .ref (m 5), .ref (m 6), .int (zI le), .ref (m 7), .ref (m 8), .ref (m 9), .ref (m 10), .ref (m 11), .ref (m 12), .ref (m 13), .ref (m 14), .ref (m 15), .ref (m 16)])), aJ E (m 10) u, aJ E (m 11) v, aJ E (m 13) q] [(0, .ref (m 0))] 0 [] := by
    intro n_o
    induction n_o with
    | zero =>
      intro n u v q he hn hu hs hm_o
      exact absurd hm_o (by omega)
    | succ n_o ih_o =>
      intro n u v q he hn hu hs hm_o
      have hlv := hi_lo v
      refine g_aload_n C dX8_common_0 0 rfl ?_
      refine g_get C 0 rfl rfl 12 (by decide) in_X8_common_X8 lk_X8_common_h rfl dX8_common_1 ?_
      refine g_callSCi (n := 1) (wr := [(m 0, .inr (8, [.int (zI kc), .ref (m 1), .ref (m 2), .ref (m 3), .ref (m 4), .ref (m 5), .ref (m 6), .int (zI le), .ref (m 7), .ref (m 8), .ref (m 9), .ref (m 10), .ref (m 11), .ref (m 12), .ref (m 13), .ref (m 14), .ref (m 15), .ref (m 16)])), aJ E (m 10) u, aJ E (m 13) q]) C (c_X8_high E l (m 11) v hs.2.1) gX8_common_X8_high rfl (by decide +kernel) rfl (by decide) dX8_common_4 rfl (Nat.le_of_ble_eq_true rfl) [2] [0, 1, 3] rfl rfl (by decide) (fun r_4 w_4 h_4 => ?_)
      obtain ⟨rfl, rfl⟩ := h_4
      refine g_eq (ws' := [(m 0, .inr (8, [.int (zI kc), .ref (m 1), .ref (m 2), .ref (m 3), .ref (m 4), .ref (m 5), .ref (m 6), .int (zI le), .ref (m 7), .ref (m 8), .ref (m 9), .ref (m 10), .ref (m 11), .ref (m 12), .ref (m 13), .ref (m 14), .ref (m 15), .ref (m 16)])), aJ E (m 10) u, aJ E (m 13) q, aJ E (m 11) v]) rfl rfl rfl ?_
      refine g_if_lt C 65 dX8_common_7 (by decide) (by omega) (by omega) (fun c_7 => ?_) (fun c_7 => ?_)
      · obtain rfl : u = eu 66 a b := by rw [← he, eu_zero n u v c_7]
        have hlu := hi_lo (eu 66 a b)
        refine g_aload_n C dX8_common_65 0 rfl ?_
        refine g_get C 0 rfl rfl 11 (by decide) in_X8_common_X8 lk_X8_common_g rfl dX8_common_66 ?_
        refine g_callSCi (n := 1) (wr := [(m 0, .inr (8, [.int (zI kc), .ref (m 1), .ref (m 2), .ref (m 3), .ref (m 4), .ref (m 5), .ref (m 6), .int (zI le), .ref (m 7), .ref (m 8), .ref (m 9), .ref (m 10), .ref (m 11), .ref (m 12), .ref (m 13), .ref (m 14), .ref (m 15), .ref (m 16)])), aJ E (m 13) q, aJ E (m 11) v]) C (c_X8_high E l (m 10) (eu 66 a b) hs.1) gX8_common_X8_high rfl (by decide +kernel) rfl (by decide) dX8_common_69 rfl (Nat.le_of_ble_eq_true rfl) [1] [0, 2, 3] rfl rfl (by decide) (fun r_69 w_69 h_69 => ?_)
        obtain ⟨rfl, rfl⟩ := h_69
        refine g_eq (ws' := [(m 0, .inr (8, [.int (zI kc), .ref (m 1), .ref (m 2), .ref (m 3), .ref (m 4), .ref (m 5), .ref (m 6), .int (zI le), .ref (m 7), .ref (m 8), .ref (m 9), .ref (m 10), .ref (m 11), .ref (m 12), .ref (m 13), .ref (m 14), .ref (m 15), .ref (m 16)])), aJ E (m 13) q, aJ E (m 11) v, aJ E (m 10) (eu 66 a b)]) rfl rfl rfl ?_
        refine g_istore_n C [(1, .int (zI (hi (eu 66 a b)))), (0, .ref (m 0))] dX8_common_72 (by decide) rfl ?_
        refine g_aload_n C dX8_common_73 1 rfl ?_
        refine g_get C 0 rfl rfl 11 (by decide) in_X8_common_X8 lk_X8_common_g rfl dX8_common_74 ?_
        refine g_iload_n C dX8_common_77 0 rfl ?_
        refine g_lald C 3 ((hi (eu 66 a b)).toNat) rfl (by omega) (by omega) (by decide) dX8_common_78 ?_
        refine g_ltop (zL ((nm (eu 66 a b) (hi (eu 66 a b))).val : Int)) (by rw [nm_pos hu]) ?_
        refine g_callSOl (n := 1) C (c_X8_inverse E l (nm (eu 66 a b) (hi (eu 66 a b)))) gX8_common_X8_inverse rfl (by decide +kernel) rfl (by decide) dX8_common_79 rfl (Nat.le_of_ble_eq_true rfl) (fun r_79 h_79 => ?_)
        obtain ⟨_, rfl, -⟩ := h_79
        refine g_lstore_n C [(2, .long (zL ((ivq (nm (eu 66 a b) (hi (eu 66 a b)))).val : Int))), (1, .int (zI (hi (eu 66 a b)))), (0, .ref (m 0))] dX8_common_82 (by decide) rfl ?_
        refine g_iconst C dX8_common_83 ?_
        refine g_istore C [(4, .int (zI 0)), (2, .long (zL ((ivq (nm (eu 66 a b) (hi (eu 66 a b)))).val : Int))), (1, .int (zI (hi (eu 66 a b)))), (0, .ref (m 0))] dX8_common_84 (by decide) rfl ?_
        have lp_m : ∀ (n_m : Nat) (x : Int) (k : Nat) (c : Po), (x = (k : Int)) → (x ≤ hi (eu 66 a b) + 1) → (∀ j : Nat, c j = if j < k then eu 66 a b j * ivq (nm (eu 66 a b) (hi (eu 66 a b))) else eu 66 a b j) → (hi (eu 66 a b) + 1).toNat - k < n_m → G 0 0 [(m 0, .inr (8, [.int (zI kc), .ref (m 1), .ref (m 2), .ref (m 3), .ref (m 4), .ref (m 5), .ref (m 6), .int (zI le), .ref (m 7), .ref (m 8), .ref (m 9), .ref (m 10), .ref (m 11), .ref (m 12), .ref (m 13), .ref (m 14), .ref (m 15), .ref (m 16)])), aJ E (m 10) c, aJ E (m 11) v, aJ E (m 13) q] [(4, .int (zI x)), (2, .long (zL ((ivq (nm (eu 66 a b) (hi (eu 66 a b)))).val : Int))), (1, .int (zI (hi (eu 66 a b)))), (0, .ref (m 0))] 86 [] := by
          intro n_m
          induction n_m with
          | zero =>
            intro x k c hx hk hc hm_m
            exact absurd hm_m (by omega)
          | succ n_m ih_m =>
            intro x k c hx hk hc hm_m
            refine g_iload C dX8_common_86 0 rfl ?_
            refine g_iload_n C dX8_common_88 2 rfl ?_
            refine g_icmp_gt C 118 dX8_common_89 (by decide) (by omega) (by omega) (by omega) (by omega) (fun c_89 => ?_) (fun c_89 => ?_)
            · obtain rfl : c = gm a b := sc_in hc (fun j hj => hi_zero hs.1 (by omega))
              exact hret _ _ _ _ _ dX8_common_118 (by decide) (by decide) ⟨v, q, ⟨hs.2.1, hs.2.2⟩, rfl⟩
            · refine g_aload_n C dX8_common_92 3 rfl ?_
              refine g_get C 0 rfl rfl 11 (by decide) in_X8_common_X8 lk_X8_common_g rfl dX8_common_93 ?_
              refine g_iload C dX8_common_96 0 rfl ?_
              refine g_aload_n C dX8_common_98 3 rfl ?_
              refine g_get C 0 rfl rfl 11 (by decide) in_X8_common_X8 lk_X8_common_g rfl dX8_common_99 ?_
              refine g_iload C dX8_common_102 0 rfl ?_
              refine g_lald C 1 k rfl (by omega) (by omega) (by decide) dX8_common_104 ?_
              refine g_lload_n C dX8_common_105 1 rfl ?_
              refine g_jmul C dX8_common_106 ?_
              refine g_ldc2 C 32003 lk_X8_common_l32003 dX8_common_107 ?_
              refine g_lmod C dX8_common_110 (by have := fq_mulb (c k) (ivq (nm (eu 66 a b) (hi (eu 66 a b)))); omega) (by have := fq_mulb (c k) (ivq (nm (eu 66 a b) (hi (eu 66 a b)))); omega) ?_
              refine g_ltop (zL ((c k * ivq (nm (eu 66 a b) (hi (eu 66 a b)))).val : Int)) (congrArg (fun u : Fq => zL (u.val : Int)) (by simp only [cF_mul, cF_of])) ?_
              refine g_last C [(m 0, .inr (8, [.int (zI kc), .ref (m 1), .ref (m 2), .ref (m 3), .ref (m 4), .ref (m 5), .ref (m 6), .int (zI le), .ref (m 7), .ref (m 8), .ref (m 9), .ref (m 10), .ref (m 11), .ref (m 12), .ref (m 13), .ref (m 14), .ref (m 15), .ref (m 16)])), aJ E (m 10) (cset c k (c k * ivq (nm (eu 66 a b) (hi (eu 66 a b))))), aJ E (m 11) v, aJ E (m 13) q] 1 k (c k * ivq (nm (eu 66 a b) (hi (eu 66 a b)))) rfl (by omega) (by omega) (by decide) (rfl) dX8_common_111 rfl ?_
              refine g_iinc C [(4, .int (zI (x + 1))), (2, .long (zL ((ivq (nm (eu 66 a b) (hi (eu 66 a b)))).val : Int))), (1, .int (zI (hi (eu 66 a b)))), (0, .ref (m 0))] dX8_common_112 0 rfl (by decide) rfl ?_
              refine g_goto C 86 dX8_common_115 (by decide) ?_
              exact ih_m (x + 1) (k + 1) (cset c k (c k * ivq (nm (eu 66 a b) (hi (eu 66 a b))))) (by omega) (by omega) (sc_next hc (by rw [hc k, if_neg (by omega)])) (by omega)
        refine g_wsub (ws' := [(m 0, .inr (8, [.int (zI kc), .ref (m 1), .ref (m 2), .ref (m 3), .ref (m 4), .ref (m 5), .ref (m 6), .int (zI le), .ref (m 7), .ref (m 8), .ref (m 9), .ref (m 10), .ref (m 11), .ref (m 12), .ref (m 13), .ref (m 14), .ref (m 15), .ref (m 16)])), aJ E (m 10) (eu 66 a b), aJ E (m 11) v, aJ E (m 13) q]) C [0, 3, 2, 1] (by decide) rfl rfl ?_
        exact lp_m 65 0 0 (eu 66 a b) rfl (by omega) (fun j => by rw [if_neg (by omega)]) (by omega)
      · obtain ⟨n2, rfl⟩ : ∃ n2, n = n2 + 1 := ⟨n - 1, by omega⟩
        have hrl := rem_lt hs.1 hs.2.1 c_7
        refine g_aload_n C dX8_common_10 0 rfl ?_
        refine g_aload_n C dX8_common_11 0 rfl ?_
        refine g_get C 0 rfl rfl 11 (by decide) in_X8_common_X8 lk_X8_common_g rfl dX8_common_12 ?_
        refine g_aload_n C dX8_common_15 0 rfl ?_
        refine g_get C 0 rfl rfl 12 (by decide) in_X8_common_X8 lk_X8_common_h rfl dX8_common_16 ?_
        refine g_callV (n := 2) (wr := []) C (c_X8_divide E l m kc le (m 10) (m 11) u v q hs c_7) gX8_common_X8_divide rfl (by decide +kernel) rfl (by decide) dX8_common_19 rfl (Nat.le_of_ble_eq_true rfl) rfl rfl [0, 2, 1, 3] [] rfl rfl (by decide) (fun w_19 h_19 => ?_)
        obtain rfl := h_19
        refine g_eq (ws' := [(m 0, .inr (8, [.int (zI kc), .ref (m 1), .ref (m 2), .ref (m 3), .ref (m 4), .ref (m 5), .ref (m 6), .int (zI le), .ref (m 7), .ref (m 8), .ref (m 9), .ref (m 10), .ref (m 11), .ref (m 12), .ref (m 13), .ref (m 14), .ref (m 15), .ref (m 16)])), aJ E (m 13) (quo u v), aJ E (m 10) (rem u v), aJ E (m 11) v]) rfl rfl rfl ?_
        refine g_iconst C dX8_common_22 ?_
        refine g_istore_n C [(1, .int (zI 0)), (0, .ref (m 0))] dX8_common_23 (by decide) rfl ?_
        have lp_s : ∀ (n_s : Nat) (x : Int) (k : Nat) (c : Po) (d : Po), (x = (k : Int)) → (k ≤ 64) → (∀ j : Nat, c j = if j < k then v j else rem u v j) → (∀ j : Nat, d j = if j < k then rem u v j else v j) → 64 - k < n_s → G 0 0 [(m 0, .inr (8, [.int (zI kc), .ref (m 1), .ref (m 2), .ref (m 3), .ref (m 4), .ref (m 5), .ref (m 6), .int (zI le), .ref (m 7), .ref (m 8), .ref (m 9), .ref (m 10), .ref (m 11), .ref (m 12), .ref (m 13), .ref (m 14), .ref (m 15), .ref (m 16)])), aJ E (m 10) c, aJ E (m 11) d, aJ E (m 13) (quo u v)] [(1, .int (zI x)), (0, .ref (m 0))] 24 [] := by
          intro n_s
          induction n_s with
          | zero =>
            intro x k c d hx hk hc hd hm_s
            exact absurd hm_s (by omega)
          | succ n_s ih_s =>
            intro x k c d hx hk hc hd hm_s
            refine g_iload_n C dX8_common_24 0 rfl ?_
            refine g_bipush C dX8_common_25 rfl ?_
            refine g_icmp_ge C 62 dX8_common_27 (by decide) (by omega) (by omega) (by omega) (by omega) (fun c_27 => ?_) (fun c_27 => ?_)
            · have hcv : c = v := cp_all ⟨rem_Sm hs.1 hs.2.1 c_7, hs.2.1⟩ (by omega) hc
              have hdv : d = rem u v := cp_all ⟨hs.2.1, rem_Sm hs.1 hs.2.1 c_7⟩ (by omega) hd
              refine g_eq (ws' := [(m 0, .inr (8, [.int (zI kc), .ref (m 1), .ref (m 2), .ref (m 3), .ref (m 4), .ref (m 5), .ref (m 6), .int (zI le), .ref (m 7), .ref (m 8), .ref (m 9), .ref (m 10), .ref (m 11), .ref (m 12), .ref (m 13), .ref (m 14), .ref (m 15), .ref (m 16)])), aJ E (m 10) v, aJ E (m 11) (rem u v), aJ E (m 13) (quo u v)]) (by rw [hcv, hdv]) rfl rfl ?_
              refine g_goto C 0 dX8_common_62 (by decide) ?_
              refine g_lsub C [1] rfl ?_
              exact ih_o n2 v (rem u v) (quo u v) (by rw [← he, eu, if_neg (by omega)]) (by omega) (by omega) ⟨hs.2.1, rem_Sm hs.1 hs.2.1 (by omega), quo_Sm hs.1 hs.2.1 (by omega)⟩ (by omega)
            · refine g_aload_n C dX8_common_30 1 rfl ?_
              refine g_get C 0 rfl rfl 11 (by decide) in_X8_common_X8 lk_X8_common_g rfl dX8_common_31 ?_
              refine g_iload_n C dX8_common_34 0 rfl ?_
              refine g_lald C 1 k rfl (by omega) (by omega) (by decide) dX8_common_35 ?_
              refine g_lstore_n C [(2, .long (zL ((c k).val : Int))), (1, .int (zI x)), (0, .ref (m 0))] dX8_common_36 (by decide) rfl ?_
              refine g_aload_n C dX8_common_37 2 rfl ?_
              refine g_get C 0 rfl rfl 11 (by decide) in_X8_common_X8 lk_X8_common_g rfl dX8_common_38 ?_
              refine g_iload_n C dX8_common_41 1 rfl ?_
              refine g_aload_n C dX8_common_42 2 rfl ?_
              refine g_get C 0 rfl rfl 12 (by decide) in_X8_common_X8 lk_X8_common_h rfl dX8_common_43 ?_
              refine g_iload_n C dX8_common_46 1 rfl ?_
              refine g_lald C 2 k rfl (by omega) (by omega) (by decide) dX8_common_47 ?_
              refine g_last C [(m 0, .inr (8, [.int (zI kc), .ref (m 1), .ref (m 2), .ref (m 3), .ref (m 4), .ref (m 5), .ref (m 6), .int (zI le), .ref (m 7), .ref (m 8), .ref (m 9), .ref (m 10), .ref (m 11), .ref (m 12), .ref (m 13), .ref (m 14), .ref (m 15), .ref (m 16)])), aJ E (m 10) (cset c k (d k)), aJ E (m 11) d, aJ E (m 13) (quo u v)] 1 k (d k) rfl (by omega) (by omega) (by decide) (rfl) dX8_common_48 rfl ?_
              refine g_aload_n C dX8_common_49 2 rfl ?_
              refine g_get C 0 rfl rfl 12 (by decide) in_X8_common_X8 lk_X8_common_h rfl dX8_common_50 ?_
              refine g_iload_n C dX8_common_53 1 rfl ?_
              refine g_lload_n C dX8_common_54 0 rfl ?_
              refine g_last C [(m 0, .inr (8, [.int (zI kc), .ref (m 1), .ref (m 2), .ref (m 3), .ref (m 4), .ref (m 5), .ref (m 6), .int (zI le), .ref (m 7), .ref (m 8), .ref (m 9), .ref (m 10), .ref (m 11), .ref (m 12), .ref (m 13), .ref (m 14), .ref (m 15), .ref (m 16)])), aJ E (m 10) (cset c k (d k)), aJ E (m 11) (cset d k (c k)), aJ E (m 13) (quo u v)] 2 k (c k) rfl (by omega) (by omega) (by decide) (rfl) dX8_common_55 rfl ?_
              refine g_iinc C [(1, .int (zI (x + 1))), (2, .long (zL ((c k).val : Int))), (0, .ref (m 0))] dX8_common_56 1 rfl (by decide) rfl ?_
              refine g_goto C 24 dX8_common_59 (by decide) ?_
              refine g_lsub C [0, 2] rfl ?_
              exact ih_s (x + 1) (k + 1) (cset c k (d k)) (cset d k (c k)) (by omega) (by omega) (cp_next hc (by rw [hd k, if_neg (by omega)])) (cp_next hd (by rw [hc k, if_neg (by omega)])) (by omega)
        refine g_wsub (ws' := [(m 0, .inr (8, [.int (zI kc), .ref (m 1), .ref (m 2), .ref (m 3), .ref (m 4), .ref (m 5), .ref (m 6), .int (zI le), .ref (m 7), .ref (m 8), .ref (m 9), .ref (m 10), .ref (m 11), .ref (m 12), .ref (m 13), .ref (m 14), .ref (m 15), .ref (m 16)])), aJ E (m 10) (rem u v), aJ E (m 11) v, aJ E (m 13) (quo u v)]) C [0, 2, 3, 1] (by decide) rfl rfl ?_
        exact lp_s 65 0 0 (rem u v) v rfl (by omega) (fun j => by rw [if_neg (by omega)]) (fun j => by rw [if_neg (by omega)]) (by omega)
  exact lp_o 65 66 a b g0 rfl (by omega) ha hS (by omega)
