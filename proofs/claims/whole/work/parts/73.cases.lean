theorem ap3 (a : va_W) (x : Nat × va_E) (b : va_W) : a ++ (x :: b) = (a ++ [x]) ++ b := by simp
theorem lk_law_m : Jvm.Cond.constantLong RL 58 (zL 4294967295) ∈ wsL_law := by decide +kernel
set_option maxHeartbeats 4000000 in
theorem lw_put {G : Gt} {E : ev} {l : Launch} {nx : String} {b L : Nat} {xs : Nat → Int32} (CL : OkL G E l nx b L xs) (hl : l.stackTraces = false) (hL : L ≤ 2560) {c : Nat → Nat} {F : Nat → Nat × Nat × Nat × Nat × Nat} {pr : Nat → Option Nat} (hpr : ∀ j : Nat, j < 21 → pr j = some (F j).1) {m : Nat → Nat} {h : Nat} {f : Nat → Int} {kc : Int} {wc wm : va_W} (hB : Both E c F pr m kc wc wm) (j : Nat) (hj : 5 * j + 5 ≤ L)
    (next : ∀ (kc2 : Int) (f2 : Nat → Int) (wc2 wm2 : va_W), Both E c F pr m kc2 wc2 wm2 → G (168 + 2 * j + 2) (4549 + 12 * j + 12) (oc E h f2 :: (wc2 ++ wm2)) [(4, .int (zI ((5 * j : Nat) : Int))), (3, .ref h), (2, .ref (m 0)), (1, .ref (c 0)), (0, .ref b)] 921 []) : G (168 + 2 * j) (4549 + 12 * j) (oc E h f :: (wc ++ wm)) [(4, .int (zI ((5 * j : Nat) : Int))), (3, .ref h), (2, .ref (m 0)), (1, .ref (c 0)), (0, .ref b)] 104 [] := by
  have C := CL.ok
  obtain ⟨A, B, ⟨p, n, d, bh, o, i, hC, rfl, rfl, hperm⟩, le, p8, d8, t8, rw8, hp8, e1, e2, rfl⟩ := hB
  refine g_aload_n C dL_law_104 3 rfl ?_
  refine g_aload_n C dL_law_105 4 rfl ?_
  refine g_iload C dL_law_106 0 rfl ?_
  refine g_iconst C dL_law_108 ?_
  refine g_iadd C dL_law_109 ?_
  refine g_sld CL (5 * j + 1) (by omega) (by omega) hL dL_law_110 ?_
  refine g_if_eq C 118 dL_law_111 (by decide) (zI_rng _).1 (zI_rng _).2 (fun c_0 => ?_) (fun c_0 => ?_)
  · refine g_iconst C dL_law_118 ?_
    refine g_aload_n C dL_law_119 4 rfl ?_
    refine g_iload C dL_law_120 0 rfl ?_
    refine g_iconst C dL_law_122 ?_
    refine g_iadd C dL_law_123 ?_
    refine g_sld CL (5 * j + 2) (by omega) (by omega) hL dL_law_124 ?_
    refine g_aload_n C dL_law_125 4 rfl ?_
    refine g_iload C dL_law_126 0 rfl ?_
    refine g_iconst C dL_law_128 ?_
    refine g_iadd C dL_law_129 ?_
    refine g_sld CL (5 * j + 3) (by omega) (by omega) hL dL_law_130 ?_
    refine g_i2l C dL_law_131 (zI_rng _).1 (zI_rng _).2 ?_
    refine g_bipush C dL_law_132 rfl ?_
    refine g_lshl C dL_law_134 ?_
    refine g_aload_n C dL_law_135 4 rfl ?_
    refine g_iload C dL_law_136 0 rfl ?_
    refine g_iconst C dL_law_138 ?_
    refine g_iadd C dL_law_139 ?_
    refine g_sld CL (5 * j + 4) (by omega) (by omega) hL dL_law_140 ?_
    refine g_i2l C dL_law_141 (zI_rng _).1 (zI_rng _).2 ?_
    refine g_ldc2 C 4294967295 lk_law_m dL_law_142 ?_
    refine g_land C dL_law_145 ?_
    refine g_lor C dL_law_146 ?_
    refine g_ltop (zL (two ((xs (5 * j + 3)).toInt) ((xs (5 * j + 4)).toInt))) (two_eq _ _) ?_
    refine g_aload_n C dL_law_147 1 rfl ?_
    refine g_callL (n := 5) (wr := rmX E m kc le p8 d8 t8 rw8) CL.t (c_L_put E l hl c F pr p n d bh o i hpr hC 0 (by omega) (by omega) ((xs (5 * j + 2)).toInt) (zI_rng _).1 (zI_rng _).2 (two ((xs (5 * j + 3)).toInt) ((xs (5 * j + 4)).toInt)) (two_rng _ _).1 (two_rng _ _).2 h f) gL_law_L_put rfl (by decide +kernel) rfl ⟨⟨rfl, rfl⟩, by decide, show 168 + 2 * j + 1 ≤ 601024 by omega, show 4549 + 12 * j + 6 ≤ 7293033 by omega⟩ dL_law_148 rfl (Nat.le_of_ble_eq_true rfl) (pm1 hperm) (fun r_1 w_1 h_1 => ?_)
    rcases h_1 with ⟨a, wc2, ⟨a1, a2⟩, hN, rfl, rfl⟩ | ⟨Ex, k, wc2, hk, hX, rfl, rfl⟩
    · refine g_perm C (pm2 _ _ _) ?_
      have h01 : a = 0 ∨ a = 1 := by
        obtain ⟨-, k, -, hr, -⟩ := hN
        by_cases g9 : (if 0 = (0 : Int) then p 1 else p 0) k = cF (two (xs (5 * j + 3)).toInt (xs (5 * j + 4)).toInt)
        · rw [if_pos g9] at hr; exact Or.inl ((zI_eq a1 a2 (by omega) (by omega)).mp hr)
        · rw [if_neg g9] at hr; exact Or.inr ((zI_eq a1 a2 (by omega) (by omega)).mp hr)
      refine g_istore C [(5, .int (zI 0)), (4, .int (zI ((5 * j : Nat) : Int))), (3, .ref h), (2, .ref (m 0)), (1, .ref (c 0)), (0, .ref b)] dL_law_151 (by decide) rfl ?_
      refine g_aload_n C dL_law_153 3 rfl ?_
      refine g_aload_n C dL_law_154 5 rfl ?_
      refine g_iload C dL_law_155 1 rfl ?_
      refine g_iconst C dL_law_157 ?_
      refine g_iadd C dL_law_158 ?_
      refine g_sld CL (5 * j + 1) (by omega) (by omega) hL dL_law_159 ?_
      refine g_if_eq C 167 dL_law_160 (by decide) (zI_rng _).1 (zI_rng _).2 (fun _ => ?_) (fun h9 => absurd c_0 h9)
      refine g_iconst C dL_law_167 ?_
      refine g_aload_n C dL_law_168 5 rfl ?_
      refine g_iload C dL_law_169 1 rfl ?_
      refine g_iconst C dL_law_171 ?_
      refine g_iadd C dL_law_172 ?_
      refine g_sld CL (5 * j + 2) (by omega) (by omega) hL dL_law_173 ?_
      refine g_aload_n C dL_law_174 5 rfl ?_
      refine g_iload C dL_law_175 1 rfl ?_
      refine g_iconst C dL_law_177 ?_
      refine g_iadd C dL_law_178 ?_
      refine g_sld CL (5 * j + 3) (by omega) (by omega) hL dL_law_179 ?_
      refine g_i2l C dL_law_180 (zI_rng _).1 (zI_rng _).2 ?_
      refine g_bipush C dL_law_181 rfl ?_
      refine g_lshl C dL_law_183 ?_
      refine g_aload_n C dL_law_184 5 rfl ?_
      refine g_iload C dL_law_185 1 rfl ?_
      refine g_iconst C dL_law_187 ?_
      refine g_iadd C dL_law_188 ?_
      refine g_sld CL (5 * j + 4) (by omega) (by omega) hL dL_law_189 ?_
      refine g_i2l C dL_law_190 (zI_rng _).1 (zI_rng _).2 ?_
      refine g_ldc2 C 4294967295 lk_law_m dL_law_191 ?_
      refine g_land C dL_law_194 ?_
      refine g_lor C dL_law_195 ?_
      refine g_ltop (zL (two ((xs (5 * j + 3)).toInt) ((xs (5 * j + 4)).toInt))) (two_eq _ _) ?_
      refine g_callVip (n := 3) (wr := oc E h (cset f 0 a) :: wc2) (post := R8_put E m (p8 1) (p8 2) 0 ((xs (5 * j + 2)).toInt) (two ((xs (5 * j + 3)).toInt) ((xs (5 * j + 4)).toInt))) C (c_X8_put E l m kc le p8 d8 t8 rw8 hp8 0 (by omega) (by omega) ((xs (5 * j + 2)).toInt) (zI_rng _).1 (zI_rng _).2 (two ((xs (5 * j + 3)).toInt) ((xs (5 * j + 4)).toInt)) (two_rng _ _).1 (two_rng _ _).2) gL_law_X8_put rfl (by decide +kernel) rfl ⟨⟨rfl, rfl⟩, by decide, show (168 + 2 * j + 1) + 0 ≤ 601024 by omega, show (4549 + 12 * j + 6) + 0 ≤ 7293033 by omega⟩ dL_law_196 rfl (Nat.le_of_ble_eq_true rfl) rfl rfl (List.Perm.refl _) (fun r_2 w_2 h_2 => ?_)
      rw [e1, e2] at h_2
      obtain ⟨rfl, hB3⟩ := nN_put hN h_2
      refine g_istore C [(6, .int (zI a)), (5, .int (zI 0)), (4, .int (zI ((5 * j : Nat) : Int))), (3, .ref h), (2, .ref (m 0)), (1, .ref (c 0)), (0, .ref b)] dL_law_199 (by decide) rfl ?_
      refine g_aload_n C dL_law_201 4 rfl ?_
      obtain ⟨A2, B2, hC2, le2, p9, d9, t9, rw9, hp9, f1, f2, rfl⟩ := hB3
      have hB3 : Both E c F pr m 0 wc2 (rmX E m 0 le2 p9 d9 t9 rw9) := ⟨A2, B2, hC2, le2, p9, d9, t9, rw9, hp9, f1, f2, rfl⟩
      refine g_callVip (n := 0) (wr := oc E h (cset f 0 a) :: wc2) C (c_X8_thrown E l m 0 le2 p9 d9 t9 rw9 hp9) gL_law_X8_thrown rfl (by decide +kernel) rfl ⟨⟨rfl, rfl⟩, by decide, show (168 + 2 * j + 1) + 0 + 0 ≤ 601024 by omega, show (4549 + 12 * j + 6) + 0 + 0 ≤ 7293033 by omega⟩ dL_law_202 rfl (Nat.le_of_ble_eq_true rfl) rfl rfl (List.Perm.refl _) (fun r_3 w_3 h_3 => ?_)
      obtain ⟨rfl, rfl⟩ := h_3
      refine g_iload C dL_law_205 1 rfl ?_
      refine g_icmp_eq C 212 dL_law_207 (by decide) (by omega) (by omega) (by omega) (by omega) (fun c_207 => ?_) (fun c_207 => by exfalso; omega)
      refine g_iload C dL_law_212 1 rfl ?_
      refine g_if_ne C 236 dL_law_214 (by decide) (by omega) (by omega) (fun h9 => absurd rfl h9) (fun _ => ?_)
      refine g_aload_n C dL_law_217 3 rfl ?_
      refine g_iconst C dL_law_218 ?_
      refine g_laldZ C 0 0 rfl (by omega) (by omega) (by decide) dL_law_219 ?_
      refine g_ltop (zL a) (congrArg zL cset_eq) ?_
      refine g_iload C dL_law_220 0 rfl ?_
      refine g_if_eq C 229 dL_law_222 (by decide) (by omega) (by omega) (fun c_222 => ?_) (fun c_222 => ?_)
      · refine g_lconst C dL_law_229 ?_
        refine g_lcmp_eq C 236 dL_law_230 dL_law_231 (by decide) (by omega) (by omega) (by omega) (by omega) (fun c_230 => ?_) (fun c_230 => by exfalso; omega)
        refine g_goto C 921 dL_law_236 (by decide) ?_
        refine g_lsub C [2, 3, 4, 5, 6] rfl ?_
        refine g_wide C (ce2 := 168 + 2 * j + 2) (so2 := 4549 + 12 * j + 12) (by omega) (by omega) ?_
        exact next 0 (cset f 0 a) _ _ hB3
      · refine g_lconst C dL_law_225 ?_
        refine g_goto C 230 dL_law_226 (by decide) ?_
        refine g_lcmp_eq C 236 dL_law_230 dL_law_231 (by decide) (by omega) (by omega) (by omega) (by omega) (fun c_230 => ?_) (fun c_230 => by exfalso; omega)
        refine g_goto C 921 dL_law_236 (by decide) ?_
        refine g_lsub C [2, 3, 4, 5, 6] rfl ?_
        refine g_wide C (ce2 := 168 + 2 * j + 2) (so2 := 4549 + 12 * j + 12) (by omega) (by omega) ?_
        exact next 0 (cset f 0 a) _ _ hB3
    · refine g_perm C (pm2 _ _ _) ?_
      have hk2 : k = 1 ∨ k = 2 := by rcases List.mem_cons.mp hk with h9 | h9; exact Or.inl (Prod.mk.inj h9).2; cases h9
      refine g_istore C [(5, .int (zI k)), (4, .int (zI ((5 * j : Nat) : Int))), (3, .ref h), (2, .ref (m 0)), (1, .ref (c 0)), (0, .ref b)] dL_law_151 (by decide) rfl ?_
      refine g_aload_n C dL_law_153 3 rfl ?_
      refine g_aload_n C dL_law_154 5 rfl ?_
      refine g_iload C dL_law_155 1 rfl ?_
      refine g_iconst C dL_law_157 ?_
      refine g_iadd C dL_law_158 ?_
      refine g_sld CL (5 * j + 1) (by omega) (by omega) hL dL_law_159 ?_
      refine g_if_eq C 167 dL_law_160 (by decide) (zI_rng _).1 (zI_rng _).2 (fun _ => ?_) (fun h9 => absurd c_0 h9)
      refine g_iconst C dL_law_167 ?_
      refine g_aload_n C dL_law_168 5 rfl ?_
      refine g_iload C dL_law_169 1 rfl ?_
      refine g_iconst C dL_law_171 ?_
      refine g_iadd C dL_law_172 ?_
      refine g_sld CL (5 * j + 2) (by omega) (by omega) hL dL_law_173 ?_
      refine g_aload_n C dL_law_174 5 rfl ?_
      refine g_iload C dL_law_175 1 rfl ?_
      refine g_iconst C dL_law_177 ?_
      refine g_iadd C dL_law_178 ?_
      refine g_sld CL (5 * j + 3) (by omega) (by omega) hL dL_law_179 ?_
      refine g_i2l C dL_law_180 (zI_rng _).1 (zI_rng _).2 ?_
      refine g_bipush C dL_law_181 rfl ?_
      refine g_lshl C dL_law_183 ?_
      refine g_aload_n C dL_law_184 5 rfl ?_
      refine g_iload C dL_law_185 1 rfl ?_
      refine g_iconst C dL_law_187 ?_
      refine g_iadd C dL_law_188 ?_
      refine g_sld CL (5 * j + 4) (by omega) (by omega) hL dL_law_189 ?_
      refine g_i2l C dL_law_190 (zI_rng _).1 (zI_rng _).2 ?_
      refine g_ldc2 C 4294967295 lk_law_m dL_law_191 ?_
      refine g_land C dL_law_194 ?_
      refine g_lor C dL_law_195 ?_
      refine g_ltop (zL (two ((xs (5 * j + 3)).toInt) ((xs (5 * j + 4)).toInt))) (two_eq _ _) ?_
      refine g_callVip (n := 3) (wr := oc E h f :: wc2) (post := R8_put E m (p8 1) (p8 2) 0 ((xs (5 * j + 2)).toInt) (two ((xs (5 * j + 3)).toInt) ((xs (5 * j + 4)).toInt))) C (c_X8_put E l m kc le p8 d8 t8 rw8 hp8 0 (by omega) (by omega) ((xs (5 * j + 2)).toInt) (zI_rng _).1 (zI_rng _).2 (two ((xs (5 * j + 3)).toInt) ((xs (5 * j + 4)).toInt)) (two_rng _ _).1 (two_rng _ _).2) gL_law_X8_put rfl (by decide +kernel) rfl ⟨⟨rfl, rfl⟩, by decide, show (168 + 2 * j + 1) + 0 ≤ 601024 by omega, show (4549 + 12 * j + 6) + 0 ≤ 7293033 by omega⟩ dL_law_196 rfl (Nat.le_of_ble_eq_true rfl) rfl rfl (List.Perm.refl _) (fun r_2 w_2 h_2 => ?_)
      rw [e1, e2] at h_2
      have hB3 := nX_put hX hk h_2
      obtain ⟨z, z1, z2, rfl⟩ : ∃ z : Int, -2147483648 ≤ z ∧ z < 2147483648 ∧ r_2 = zI z := ⟨r_2.toInt, (zI_rng r_2).1, (zI_rng r_2).2, (zI_of r_2).symm⟩
      refine g_istore C [(6, .int (zI z)), (5, .int (zI k)), (4, .int (zI ((5 * j : Nat) : Int))), (3, .ref h), (2, .ref (m 0)), (1, .ref (c 0)), (0, .ref b)] dL_law_199 (by decide) rfl ?_
      refine g_aload_n C dL_law_201 4 rfl ?_
      obtain ⟨A2, B2, hC2, le2, p9, d9, t9, rw9, hp9, f1, f2, rfl⟩ := hB3
      have hB3 : Both E c F pr m k wc2 (rmX E m k le2 p9 d9 t9 rw9) := ⟨A2, B2, hC2, le2, p9, d9, t9, rw9, hp9, f1, f2, rfl⟩
      refine g_callVip (n := 0) (wr := oc E h f :: wc2) C (c_X8_thrown E l m k le2 p9 d9 t9 rw9 hp9) gL_law_X8_thrown rfl (by decide +kernel) rfl ⟨⟨rfl, rfl⟩, by decide, show (168 + 2 * j + 1) + 0 + 0 ≤ 601024 by omega, show (4549 + 12 * j + 6) + 0 + 0 ≤ 7293033 by omega⟩ dL_law_202 rfl (Nat.le_of_ble_eq_true rfl) rfl rfl (List.Perm.refl _) (fun r_3 w_3 h_3 => ?_)
      obtain ⟨rfl, rfl⟩ := h_3
      refine g_iload C dL_law_205 1 rfl ?_
      refine g_icmp_eq C 212 dL_law_207 (by decide) (by omega) (by omega) (by omega) (by omega) (fun c_207 => ?_) (fun c_207 => by exfalso; omega)
      refine g_iload C dL_law_212 1 rfl ?_
      refine g_if_ne C 236 dL_law_214 (by decide) (by omega) (by omega) (fun _ => ?_) (fun h9 => by exfalso; omega)
      refine g_goto C 921 dL_law_236 (by decide) ?_
      refine g_lsub C [2, 3, 4, 5, 6] rfl ?_
      refine g_wide C (ce2 := 168 + 2 * j + 2) (so2 := 4549 + 12 * j + 12) (by omega) (by omega) ?_
      exact next k f _ _ hB3
  · refine g_iconst C dL_law_114 ?_
    refine g_goto C 119 dL_law_115 (by decide) ?_
    refine g_aload_n C dL_law_119 4 rfl ?_
    refine g_iload C dL_law_120 0 rfl ?_
    refine g_iconst C dL_law_122 ?_
    refine g_iadd C dL_law_123 ?_
    refine g_sld CL (5 * j + 2) (by omega) (by omega) hL dL_law_124 ?_
    refine g_aload_n C dL_law_125 4 rfl ?_
    refine g_iload C dL_law_126 0 rfl ?_
    refine g_iconst C dL_law_128 ?_
    refine g_iadd C dL_law_129 ?_
    refine g_sld CL (5 * j + 3) (by omega) (by omega) hL dL_law_130 ?_
    refine g_i2l C dL_law_131 (zI_rng _).1 (zI_rng _).2 ?_
    refine g_bipush C dL_law_132 rfl ?_
    refine g_lshl C dL_law_134 ?_
    refine g_aload_n C dL_law_135 4 rfl ?_
    refine g_iload C dL_law_136 0 rfl ?_
    refine g_iconst C dL_law_138 ?_
    refine g_iadd C dL_law_139 ?_
    refine g_sld CL (5 * j + 4) (by omega) (by omega) hL dL_law_140 ?_
    refine g_i2l C dL_law_141 (zI_rng _).1 (zI_rng _).2 ?_
    refine g_ldc2 C 4294967295 lk_law_m dL_law_142 ?_
    refine g_land C dL_law_145 ?_
    refine g_lor C dL_law_146 ?_
    refine g_ltop (zL (two ((xs (5 * j + 3)).toInt) ((xs (5 * j + 4)).toInt))) (two_eq _ _) ?_
    refine g_aload_n C dL_law_147 1 rfl ?_
    refine g_callL (n := 5) (wr := rmX E m kc le p8 d8 t8 rw8) CL.t (c_L_put E l hl c F pr p n d bh o i hpr hC 1 (by omega) (by omega) ((xs (5 * j + 2)).toInt) (zI_rng _).1 (zI_rng _).2 (two ((xs (5 * j + 3)).toInt) ((xs (5 * j + 4)).toInt)) (two_rng _ _).1 (two_rng _ _).2 h f) gL_law_L_put rfl (by decide +kernel) rfl ⟨⟨rfl, rfl⟩, by decide, show 168 + 2 * j + 1 ≤ 601024 by omega, show 4549 + 12 * j + 6 ≤ 7293033 by omega⟩ dL_law_148 rfl (Nat.le_of_ble_eq_true rfl) (pm1 hperm) (fun r_1 w_1 h_1 => ?_)
    rcases h_1 with ⟨a, wc2, ⟨a1, a2⟩, hN, rfl, rfl⟩ | ⟨Ex, k, wc2, hk, hX, rfl, rfl⟩
    · refine g_perm C (pm2 _ _ _) ?_
      have h01 : a = 0 ∨ a = 1 := by
        obtain ⟨-, k, -, hr, -⟩ := hN
        by_cases g9 : (if 1 = (0 : Int) then p 1 else p 0) k = cF (two (xs (5 * j + 3)).toInt (xs (5 * j + 4)).toInt)
        · rw [if_pos g9] at hr; exact Or.inl ((zI_eq a1 a2 (by omega) (by omega)).mp hr)
        · rw [if_neg g9] at hr; exact Or.inr ((zI_eq a1 a2 (by omega) (by omega)).mp hr)
      refine g_istore C [(5, .int (zI 0)), (4, .int (zI ((5 * j : Nat) : Int))), (3, .ref h), (2, .ref (m 0)), (1, .ref (c 0)), (0, .ref b)] dL_law_151 (by decide) rfl ?_
      refine g_aload_n C dL_law_153 3 rfl ?_
      refine g_aload_n C dL_law_154 5 rfl ?_
      refine g_iload C dL_law_155 1 rfl ?_
      refine g_iconst C dL_law_157 ?_
      refine g_iadd C dL_law_158 ?_
      refine g_sld CL (5 * j + 1) (by omega) (by omega) hL dL_law_159 ?_
      refine g_if_eq C 167 dL_law_160 (by decide) (zI_rng _).1 (zI_rng _).2 (fun h9 => absurd h9 c_0) (fun _ => ?_)
      refine g_iconst C dL_law_163 ?_
      refine g_goto C 168 dL_law_164 (by decide) ?_
      refine g_aload_n C dL_law_168 5 rfl ?_
      refine g_iload C dL_law_169 1 rfl ?_
      refine g_iconst C dL_law_171 ?_
      refine g_iadd C dL_law_172 ?_
      refine g_sld CL (5 * j + 2) (by omega) (by omega) hL dL_law_173 ?_
      refine g_aload_n C dL_law_174 5 rfl ?_
      refine g_iload C dL_law_175 1 rfl ?_
      refine g_iconst C dL_law_177 ?_
      refine g_iadd C dL_law_178 ?_
      refine g_sld CL (5 * j + 3) (by omega) (by omega) hL dL_law_179 ?_
      refine g_i2l C dL_law_180 (zI_rng _).1 (zI_rng _).2 ?_
      refine g_bipush C dL_law_181 rfl ?_
      refine g_lshl C dL_law_183 ?_
      refine g_aload_n C dL_law_184 5 rfl ?_
      refine g_iload C dL_law_185 1 rfl ?_
      refine g_iconst C dL_law_187 ?_
      refine g_iadd C dL_law_188 ?_
      refine g_sld CL (5 * j + 4) (by omega) (by omega) hL dL_law_189 ?_
      refine g_i2l C dL_law_190 (zI_rng _).1 (zI_rng _).2 ?_
      refine g_ldc2 C 4294967295 lk_law_m dL_law_191 ?_
      refine g_land C dL_law_194 ?_
      refine g_lor C dL_law_195 ?_
      refine g_ltop (zL (two ((xs (5 * j + 3)).toInt) ((xs (5 * j + 4)).toInt))) (two_eq _ _) ?_
      refine g_callVip (n := 3) (wr := oc E h (cset f 0 a) :: wc2) (post := R8_put E m (p8 1) (p8 2) 1 ((xs (5 * j + 2)).toInt) (two ((xs (5 * j + 3)).toInt) ((xs (5 * j + 4)).toInt))) C (c_X8_put E l m kc le p8 d8 t8 rw8 hp8 1 (by omega) (by omega) ((xs (5 * j + 2)).toInt) (zI_rng _).1 (zI_rng _).2 (two ((xs (5 * j + 3)).toInt) ((xs (5 * j + 4)).toInt)) (two_rng _ _).1 (two_rng _ _).2) gL_law_X8_put rfl (by decide +kernel) rfl ⟨⟨rfl, rfl⟩, by decide, show (168 + 2 * j + 1) + 0 ≤ 601024 by omega, show (4549 + 12 * j + 6) + 0 ≤ 7293033 by omega⟩ dL_law_196 rfl (Nat.le_of_ble_eq_true rfl) rfl rfl (List.Perm.refl _) (fun r_2 w_2 h_2 => ?_)
      rw [e1, e2] at h_2
      obtain ⟨rfl, hB3⟩ := nN_put hN h_2
      refine g_istore C [(6, .int (zI a)), (5, .int (zI 0)), (4, .int (zI ((5 * j : Nat) : Int))), (3, .ref h), (2, .ref (m 0)), (1, .ref (c 0)), (0, .ref b)] dL_law_199 (by decide) rfl ?_
      refine g_aload_n C dL_law_201 4 rfl ?_
      obtain ⟨A2, B2, hC2, le2, p9, d9, t9, rw9, hp9, f1, f2, rfl⟩ := hB3
      have hB3 : Both E c F pr m 0 wc2 (rmX E m 0 le2 p9 d9 t9 rw9) := ⟨A2, B2, hC2, le2, p9, d9, t9, rw9, hp9, f1, f2, rfl⟩
      refine g_callVip (n := 0) (wr := oc E h (cset f 0 a) :: wc2) C (c_X8_thrown E l m 0 le2 p9 d9 t9 rw9 hp9) gL_law_X8_thrown rfl (by decide +kernel) rfl ⟨⟨rfl, rfl⟩, by decide, show (168 + 2 * j + 1) + 0 + 0 ≤ 601024 by omega, show (4549 + 12 * j + 6) + 0 + 0 ≤ 7293033 by omega⟩ dL_law_202 rfl (Nat.le_of_ble_eq_true rfl) rfl rfl (List.Perm.refl _) (fun r_3 w_3 h_3 => ?_)
      obtain ⟨rfl, rfl⟩ := h_3
      refine g_iload C dL_law_205 1 rfl ?_
      refine g_icmp_eq C 212 dL_law_207 (by decide) (by omega) (by omega) (by omega) (by omega) (fun c_207 => ?_) (fun c_207 => by exfalso; omega)
      refine g_iload C dL_law_212 1 rfl ?_
      refine g_if_ne C 236 dL_law_214 (by decide) (by omega) (by omega) (fun h9 => absurd rfl h9) (fun _ => ?_)
      refine g_aload_n C dL_law_217 3 rfl ?_
      refine g_iconst C dL_law_218 ?_
      refine g_laldZ C 0 0 rfl (by omega) (by omega) (by decide) dL_law_219 ?_
      refine g_ltop (zL a) (congrArg zL cset_eq) ?_
      refine g_iload C dL_law_220 0 rfl ?_
      refine g_if_eq C 229 dL_law_222 (by decide) (by omega) (by omega) (fun c_222 => ?_) (fun c_222 => ?_)
      · refine g_lconst C dL_law_229 ?_
        refine g_lcmp_eq C 236 dL_law_230 dL_law_231 (by decide) (by omega) (by omega) (by omega) (by omega) (fun c_230 => ?_) (fun c_230 => by exfalso; omega)
        refine g_goto C 921 dL_law_236 (by decide) ?_
        refine g_lsub C [2, 3, 4, 5, 6] rfl ?_
        refine g_wide C (ce2 := 168 + 2 * j + 2) (so2 := 4549 + 12 * j + 12) (by omega) (by omega) ?_
        exact next 0 (cset f 0 a) _ _ hB3
      · refine g_lconst C dL_law_225 ?_
        refine g_goto C 230 dL_law_226 (by decide) ?_
        refine g_lcmp_eq C 236 dL_law_230 dL_law_231 (by decide) (by omega) (by omega) (by omega) (by omega) (fun c_230 => ?_) (fun c_230 => by exfalso; omega)
        refine g_goto C 921 dL_law_236 (by decide) ?_
        refine g_lsub C [2, 3, 4, 5, 6] rfl ?_
        refine g_wide C (ce2 := 168 + 2 * j + 2) (so2 := 4549 + 12 * j + 12) (by omega) (by omega) ?_
        exact next 0 (cset f 0 a) _ _ hB3
    · refine g_perm C (pm2 _ _ _) ?_
      have hk2 : k = 1 ∨ k = 2 := by rcases List.mem_cons.mp hk with h9 | h9; exact Or.inl (Prod.mk.inj h9).2; cases h9
      refine g_istore C [(5, .int (zI k)), (4, .int (zI ((5 * j : Nat) : Int))), (3, .ref h), (2, .ref (m 0)), (1, .ref (c 0)), (0, .ref b)] dL_law_151 (by decide) rfl ?_
      refine g_aload_n C dL_law_153 3 rfl ?_
      refine g_aload_n C dL_law_154 5 rfl ?_
      refine g_iload C dL_law_155 1 rfl ?_
      refine g_iconst C dL_law_157 ?_
      refine g_iadd C dL_law_158 ?_
      refine g_sld CL (5 * j + 1) (by omega) (by omega) hL dL_law_159 ?_
      refine g_if_eq C 167 dL_law_160 (by decide) (zI_rng _).1 (zI_rng _).2 (fun h9 => absurd h9 c_0) (fun _ => ?_)
      refine g_iconst C dL_law_163 ?_
      refine g_goto C 168 dL_law_164 (by decide) ?_
      refine g_aload_n C dL_law_168 5 rfl ?_
      refine g_iload C dL_law_169 1 rfl ?_
      refine g_iconst C dL_law_171 ?_
      refine g_iadd C dL_law_172 ?_
      refine g_sld CL (5 * j + 2) (by omega) (by omega) hL dL_law_173 ?_
      refine g_aload_n C dL_law_174 5 rfl ?_
      refine g_iload C dL_law_175 1 rfl ?_
      refine g_iconst C dL_law_177 ?_
      refine g_iadd C dL_law_178 ?_
      refine g_sld CL (5 * j + 3) (by omega) (by omega) hL dL_law_179 ?_
      refine g_i2l C dL_law_180 (zI_rng _).1 (zI_rng _).2 ?_
      refine g_bipush C dL_law_181 rfl ?_
      refine g_lshl C dL_law_183 ?_
      refine g_aload_n C dL_law_184 5 rfl ?_
      refine g_iload C dL_law_185 1 rfl ?_
      refine g_iconst C dL_law_187 ?_
      refine g_iadd C dL_law_188 ?_
      refine g_sld CL (5 * j + 4) (by omega) (by omega) hL dL_law_189 ?_
      refine g_i2l C dL_law_190 (zI_rng _).1 (zI_rng _).2 ?_
      refine g_ldc2 C 4294967295 lk_law_m dL_law_191 ?_
      refine g_land C dL_law_194 ?_
      refine g_lor C dL_law_195 ?_
      refine g_ltop (zL (two ((xs (5 * j + 3)).toInt) ((xs (5 * j + 4)).toInt))) (two_eq _ _) ?_
      refine g_callVip (n := 3) (wr := oc E h f :: wc2) (post := R8_put E m (p8 1) (p8 2) 1 ((xs (5 * j + 2)).toInt) (two ((xs (5 * j + 3)).toInt) ((xs (5 * j + 4)).toInt))) C (c_X8_put E l m kc le p8 d8 t8 rw8 hp8 1 (by omega) (by omega) ((xs (5 * j + 2)).toInt) (zI_rng _).1 (zI_rng _).2 (two ((xs (5 * j + 3)).toInt) ((xs (5 * j + 4)).toInt)) (two_rng _ _).1 (two_rng _ _).2) gL_law_X8_put rfl (by decide +kernel) rfl ⟨⟨rfl, rfl⟩, by decide, show (168 + 2 * j + 1) + 0 ≤ 601024 by omega, show (4549 + 12 * j + 6) + 0 ≤ 7293033 by omega⟩ dL_law_196 rfl (Nat.le_of_ble_eq_true rfl) rfl rfl (List.Perm.refl _) (fun r_2 w_2 h_2 => ?_)
      rw [e1, e2] at h_2
      have hB3 := nX_put hX hk h_2
      obtain ⟨z, z1, z2, rfl⟩ : ∃ z : Int, -2147483648 ≤ z ∧ z < 2147483648 ∧ r_2 = zI z := ⟨r_2.toInt, (zI_rng r_2).1, (zI_rng r_2).2, (zI_of r_2).symm⟩
      refine g_istore C [(6, .int (zI z)), (5, .int (zI k)), (4, .int (zI ((5 * j : Nat) : Int))), (3, .ref h), (2, .ref (m 0)), (1, .ref (c 0)), (0, .ref b)] dL_law_199 (by decide) rfl ?_
      refine g_aload_n C dL_law_201 4 rfl ?_
      obtain ⟨A2, B2, hC2, le2, p9, d9, t9, rw9, hp9, f1, f2, rfl⟩ := hB3
      have hB3 : Both E c F pr m k wc2 (rmX E m k le2 p9 d9 t9 rw9) := ⟨A2, B2, hC2, le2, p9, d9, t9, rw9, hp9, f1, f2, rfl⟩
      refine g_callVip (n := 0) (wr := oc E h f :: wc2) C (c_X8_thrown E l m k le2 p9 d9 t9 rw9 hp9) gL_law_X8_thrown rfl (by decide +kernel) rfl ⟨⟨rfl, rfl⟩, by decide, show (168 + 2 * j + 1) + 0 + 0 ≤ 601024 by omega, show (4549 + 12 * j + 6) + 0 + 0 ≤ 7293033 by omega⟩ dL_law_202 rfl (Nat.le_of_ble_eq_true rfl) rfl rfl (List.Perm.refl _) (fun r_3 w_3 h_3 => ?_)
      obtain ⟨rfl, rfl⟩ := h_3
      refine g_iload C dL_law_205 1 rfl ?_
      refine g_icmp_eq C 212 dL_law_207 (by decide) (by omega) (by omega) (by omega) (by omega) (fun c_207 => ?_) (fun c_207 => by exfalso; omega)
      refine g_iload C dL_law_212 1 rfl ?_
      refine g_if_ne C 236 dL_law_214 (by decide) (by omega) (by omega) (fun _ => ?_) (fun h9 => by exfalso; omega)
      refine g_goto C 921 dL_law_236 (by decide) ?_
      refine g_lsub C [2, 3, 4, 5, 6] rfl ?_
      refine g_wide C (ce2 := 168 + 2 * j + 2) (so2 := 4549 + 12 * j + 12) (by omega) (by omega) ?_
      exact next k f _ _ hB3
set_option maxHeartbeats 4000000 in
theorem lw_at {G : Gt} {E : ev} {l : Launch} {nx : String} {b L : Nat} {xs : Nat → Int32} (CL : OkL G E l nx b L xs) (hl : l.stackTraces = false) (hL : L ≤ 2560) {c : Nat → Nat} {F : Nat → Nat × Nat × Nat × Nat × Nat} {pr : Nat → Option Nat} (hpr : ∀ j : Nat, j < 21 → pr j = some (F j).1) {m : Nat → Nat} {h : Nat} {f : Nat → Int} {kc : Int} {wc wm : va_W} (hB : Both E c F pr m kc wc wm) (j : Nat) (hj : 5 * j + 5 ≤ L)
    (next : ∀ (kc2 : Int) (f2 : Nat → Int) (wc2 wm2 : va_W), Both E c F pr m kc2 wc2 wm2 → G (168 + 2 * j + 2) (4549 + 12 * j + 12) (oc E h f2 :: (wc2 ++ wm2)) [(4, .int (zI ((5 * j : Nat) : Int))), (3, .ref h), (2, .ref (m 0)), (1, .ref (c 0)), (0, .ref b)] 921 []) : G (168 + 2 * j) (4549 + 12 * j) (oc E h f :: (wc ++ wm)) [(4, .int (zI ((5 * j : Nat) : Int))), (3, .ref h), (2, .ref (m 0)), (1, .ref (c 0)), (0, .ref b)] 239 [] := by
  have C := CL.ok
  obtain ⟨A, B, ⟨p, n, d, bh, o, i, hC, rfl, rfl, hperm⟩, le, p8, d8, t8, rw8, hp8, e1, e2, rfl⟩ := hB
  refine g_aload_n C dL_law_239 3 rfl ?_
  refine g_aload_n C dL_law_240 4 rfl ?_
  refine g_iload C dL_law_241 0 rfl ?_
  refine g_iconst C dL_law_243 ?_
  refine g_iadd C dL_law_244 ?_
  refine g_sld CL (5 * j + 1) (by omega) (by omega) hL dL_law_245 ?_
  refine g_if_eq C 253 dL_law_246 (by decide) (zI_rng _).1 (zI_rng _).2 (fun c_0 => ?_) (fun c_0 => ?_)
  · refine g_iconst C dL_law_253 ?_
    refine g_aload_n C dL_law_254 4 rfl ?_
    refine g_iload C dL_law_255 0 rfl ?_
    refine g_iconst C dL_law_257 ?_
    refine g_iadd C dL_law_258 ?_
    refine g_sld CL (5 * j + 2) (by omega) (by omega) hL dL_law_259 ?_
    refine g_aload_n C dL_law_260 1 rfl ?_
    refine g_callL (n := 4) (wr := rmX E m kc le p8 d8 t8 rw8) CL.t (c_L_at E l hl c F pr p n d bh o i hpr hC 0 (by omega) (by omega) ((xs (5 * j + 2)).toInt) (zI_rng _).1 (zI_rng _).2 h f) gL_law_L_at rfl (by decide +kernel) rfl ⟨⟨rfl, rfl⟩, by decide, show 168 + 2 * j + 1 ≤ 601024 by omega, show 4549 + 12 * j + 6 ≤ 7293033 by omega⟩ dL_law_261 rfl (Nat.le_of_ble_eq_true rfl) (pm1 hperm) (fun r_1 w_1 h_1 => ?_)
    rcases h_1 with ⟨a, wc2, ⟨a1, a2⟩, hN, rfl, rfl⟩ | ⟨Ex, k, wc2, hk, hX, rfl, rfl⟩
    · refine g_perm C (pm2 _ _ _) ?_
      refine g_istore C [(5, .int (zI 0)), (4, .int (zI ((5 * j : Nat) : Int))), (3, .ref h), (2, .ref (m 0)), (1, .ref (c 0)), (0, .ref b)] dL_law_264 (by decide) rfl ?_
      refine g_aload_n C dL_law_266 3 rfl ?_
      refine g_aload_n C dL_law_267 5 rfl ?_
      refine g_iload C dL_law_268 1 rfl ?_
      refine g_iconst C dL_law_270 ?_
      refine g_iadd C dL_law_271 ?_
      refine g_sld CL (5 * j + 1) (by omega) (by omega) hL dL_law_272 ?_
      refine g_if_eq C 280 dL_law_273 (by decide) (zI_rng _).1 (zI_rng _).2 (fun _ => ?_) (fun h9 => absurd c_0 h9)
      refine g_iconst C dL_law_280 ?_
      refine g_aload_n C dL_law_281 5 rfl ?_
      refine g_iload C dL_law_282 1 rfl ?_
      refine g_iconst C dL_law_284 ?_
      refine g_iadd C dL_law_285 ?_
      refine g_sld CL (5 * j + 2) (by omega) (by omega) hL dL_law_286 ?_
      refine g_callVip (n := 2) (wr := oc E h (cset f 0 a) :: wc2) (post := R8_at E m (p8 1) (p8 2) 0 ((xs (5 * j + 2)).toInt)) C (c_X8_at E l m kc le p8 d8 t8 rw8 hp8 0 (by omega) (by omega) ((xs (5 * j + 2)).toInt) (zI_rng _).1 (zI_rng _).2) gL_law_X8_at rfl (by decide +kernel) rfl ⟨⟨rfl, rfl⟩, by decide, show (168 + 2 * j + 1) + 0 ≤ 601024 by omega, show (4549 + 12 * j + 6) + 0 ≤ 7293033 by omega⟩ dL_law_287 rfl (Nat.le_of_ble_eq_true rfl) rfl rfl (List.Perm.refl _) (fun r_2 w_2 h_2 => ?_)
      rw [e1, e2] at h_2
      obtain ⟨rfl, hB3⟩ := nN_at hN h_2
      refine g_istore C [(6, .int (zI a)), (5, .int (zI 0)), (4, .int (zI ((5 * j : Nat) : Int))), (3, .ref h), (2, .ref (m 0)), (1, .ref (c 0)), (0, .ref b)] dL_law_290 (by decide) rfl ?_
      refine g_aload_n C dL_law_292 4 rfl ?_
      obtain ⟨A2, B2, hC2, le2, p9, d9, t9, rw9, hp9, f1, f2, rfl⟩ := hB3
      have hB3 : Both E c F pr m 0 wc2 (rmX E m 0 le2 p9 d9 t9 rw9) := ⟨A2, B2, hC2, le2, p9, d9, t9, rw9, hp9, f1, f2, rfl⟩
      refine g_callVip (n := 0) (wr := oc E h (cset f 0 a) :: wc2) C (c_X8_thrown E l m 0 le2 p9 d9 t9 rw9 hp9) gL_law_X8_thrown rfl (by decide +kernel) rfl ⟨⟨rfl, rfl⟩, by decide, show (168 + 2 * j + 1) + 0 + 0 ≤ 601024 by omega, show (4549 + 12 * j + 6) + 0 + 0 ≤ 7293033 by omega⟩ dL_law_293 rfl (Nat.le_of_ble_eq_true rfl) rfl rfl (List.Perm.refl _) (fun r_3 w_3 h_3 => ?_)
      obtain ⟨rfl, rfl⟩ := h_3
      refine g_iload C dL_law_296 1 rfl ?_
      refine g_icmp_eq C 303 dL_law_298 (by decide) (by omega) (by omega) (by omega) (by omega) (fun c_298 => ?_) (fun c_298 => by exfalso; omega)
      refine g_iload C dL_law_303 1 rfl ?_
      refine g_if_ne C 320 dL_law_305 (by decide) (by omega) (by omega) (fun h9 => absurd rfl h9) (fun _ => ?_)
      refine g_aload_n C dL_law_308 3 rfl ?_
      refine g_iconst C dL_law_309 ?_
      refine g_laldZ C 0 0 rfl (by omega) (by omega) (by decide) dL_law_310 ?_
      refine g_ltop (zL a) (congrArg zL cset_eq) ?_
      refine g_iload C dL_law_311 0 rfl ?_
      refine g_i2l C dL_law_313 (by omega) (by omega) ?_
      refine g_lcmp_eq C 320 dL_law_314 dL_law_315 (by decide) (by omega) (by omega) (by omega) (by omega) (fun c_314 => ?_) (fun c_314 => by exfalso; omega)
      refine g_goto C 921 dL_law_320 (by decide) ?_
      refine g_lsub C [2, 3, 4, 5, 6] rfl ?_
      refine g_wide C (ce2 := 168 + 2 * j + 2) (so2 := 4549 + 12 * j + 12) (by omega) (by omega) ?_
      exact next 0 (cset f 0 a) _ _ hB3
    · refine g_perm C (pm2 _ _ _) ?_
      have hk2 : k = 1 ∨ k = 2 := by rcases List.mem_cons.mp hk with h9 | h9; exact Or.inl (Prod.mk.inj h9).2; cases h9
      refine g_istore C [(5, .int (zI k)), (4, .int (zI ((5 * j : Nat) : Int))), (3, .ref h), (2, .ref (m 0)), (1, .ref (c 0)), (0, .ref b)] dL_law_264 (by decide) rfl ?_
      refine g_aload_n C dL_law_266 3 rfl ?_
      refine g_aload_n C dL_law_267 5 rfl ?_
      refine g_iload C dL_law_268 1 rfl ?_
      refine g_iconst C dL_law_270 ?_
      refine g_iadd C dL_law_271 ?_
      refine g_sld CL (5 * j + 1) (by omega) (by omega) hL dL_law_272 ?_
      refine g_if_eq C 280 dL_law_273 (by decide) (zI_rng _).1 (zI_rng _).2 (fun _ => ?_) (fun h9 => absurd c_0 h9)
      refine g_iconst C dL_law_280 ?_
      refine g_aload_n C dL_law_281 5 rfl ?_
      refine g_iload C dL_law_282 1 rfl ?_
      refine g_iconst C dL_law_284 ?_
      refine g_iadd C dL_law_285 ?_
      refine g_sld CL (5 * j + 2) (by omega) (by omega) hL dL_law_286 ?_
      refine g_callVip (n := 2) (wr := oc E h f :: wc2) (post := R8_at E m (p8 1) (p8 2) 0 ((xs (5 * j + 2)).toInt)) C (c_X8_at E l m kc le p8 d8 t8 rw8 hp8 0 (by omega) (by omega) ((xs (5 * j + 2)).toInt) (zI_rng _).1 (zI_rng _).2) gL_law_X8_at rfl (by decide +kernel) rfl ⟨⟨rfl, rfl⟩, by decide, show (168 + 2 * j + 1) + 0 ≤ 601024 by omega, show (4549 + 12 * j + 6) + 0 ≤ 7293033 by omega⟩ dL_law_287 rfl (Nat.le_of_ble_eq_true rfl) rfl rfl (List.Perm.refl _) (fun r_2 w_2 h_2 => ?_)
      rw [e1, e2] at h_2
      have hB3 := nX_at hX hk h_2
      obtain ⟨z, z1, z2, rfl⟩ : ∃ z : Int, -2147483648 ≤ z ∧ z < 2147483648 ∧ r_2 = zI z := ⟨r_2.toInt, (zI_rng r_2).1, (zI_rng r_2).2, (zI_of r_2).symm⟩
      refine g_istore C [(6, .int (zI z)), (5, .int (zI k)), (4, .int (zI ((5 * j : Nat) : Int))), (3, .ref h), (2, .ref (m 0)), (1, .ref (c 0)), (0, .ref b)] dL_law_290 (by decide) rfl ?_
      refine g_aload_n C dL_law_292 4 rfl ?_
      obtain ⟨A2, B2, hC2, le2, p9, d9, t9, rw9, hp9, f1, f2, rfl⟩ := hB3
      have hB3 : Both E c F pr m k wc2 (rmX E m k le2 p9 d9 t9 rw9) := ⟨A2, B2, hC2, le2, p9, d9, t9, rw9, hp9, f1, f2, rfl⟩
      refine g_callVip (n := 0) (wr := oc E h f :: wc2) C (c_X8_thrown E l m k le2 p9 d9 t9 rw9 hp9) gL_law_X8_thrown rfl (by decide +kernel) rfl ⟨⟨rfl, rfl⟩, by decide, show (168 + 2 * j + 1) + 0 + 0 ≤ 601024 by omega, show (4549 + 12 * j + 6) + 0 + 0 ≤ 7293033 by omega⟩ dL_law_293 rfl (Nat.le_of_ble_eq_true rfl) rfl rfl (List.Perm.refl _) (fun r_3 w_3 h_3 => ?_)
      obtain ⟨rfl, rfl⟩ := h_3
      refine g_iload C dL_law_296 1 rfl ?_
      refine g_icmp_eq C 303 dL_law_298 (by decide) (by omega) (by omega) (by omega) (by omega) (fun c_298 => ?_) (fun c_298 => by exfalso; omega)
      refine g_iload C dL_law_303 1 rfl ?_
      refine g_if_ne C 320 dL_law_305 (by decide) (by omega) (by omega) (fun _ => ?_) (fun h9 => by exfalso; omega)
      refine g_goto C 921 dL_law_320 (by decide) ?_
      refine g_lsub C [2, 3, 4, 5, 6] rfl ?_
      refine g_wide C (ce2 := 168 + 2 * j + 2) (so2 := 4549 + 12 * j + 12) (by omega) (by omega) ?_
      exact next k f _ _ hB3
  · refine g_iconst C dL_law_249 ?_
    refine g_goto C 254 dL_law_250 (by decide) ?_
    refine g_aload_n C dL_law_254 4 rfl ?_
    refine g_iload C dL_law_255 0 rfl ?_
    refine g_iconst C dL_law_257 ?_
    refine g_iadd C dL_law_258 ?_
    refine g_sld CL (5 * j + 2) (by omega) (by omega) hL dL_law_259 ?_
    refine g_aload_n C dL_law_260 1 rfl ?_
    refine g_callL (n := 4) (wr := rmX E m kc le p8 d8 t8 rw8) CL.t (c_L_at E l hl c F pr p n d bh o i hpr hC 1 (by omega) (by omega) ((xs (5 * j + 2)).toInt) (zI_rng _).1 (zI_rng _).2 h f) gL_law_L_at rfl (by decide +kernel) rfl ⟨⟨rfl, rfl⟩, by decide, show 168 + 2 * j + 1 ≤ 601024 by omega, show 4549 + 12 * j + 6 ≤ 7293033 by omega⟩ dL_law_261 rfl (Nat.le_of_ble_eq_true rfl) (pm1 hperm) (fun r_1 w_1 h_1 => ?_)
    rcases h_1 with ⟨a, wc2, ⟨a1, a2⟩, hN, rfl, rfl⟩ | ⟨Ex, k, wc2, hk, hX, rfl, rfl⟩
    · refine g_perm C (pm2 _ _ _) ?_
      refine g_istore C [(5, .int (zI 0)), (4, .int (zI ((5 * j : Nat) : Int))), (3, .ref h), (2, .ref (m 0)), (1, .ref (c 0)), (0, .ref b)] dL_law_264 (by decide) rfl ?_
      refine g_aload_n C dL_law_266 3 rfl ?_
      refine g_aload_n C dL_law_267 5 rfl ?_
      refine g_iload C dL_law_268 1 rfl ?_
      refine g_iconst C dL_law_270 ?_
      refine g_iadd C dL_law_271 ?_
      refine g_sld CL (5 * j + 1) (by omega) (by omega) hL dL_law_272 ?_
      refine g_if_eq C 280 dL_law_273 (by decide) (zI_rng _).1 (zI_rng _).2 (fun h9 => absurd h9 c_0) (fun _ => ?_)
      refine g_iconst C dL_law_276 ?_
      refine g_goto C 281 dL_law_277 (by decide) ?_
      refine g_aload_n C dL_law_281 5 rfl ?_
      refine g_iload C dL_law_282 1 rfl ?_
      refine g_iconst C dL_law_284 ?_
      refine g_iadd C dL_law_285 ?_
      refine g_sld CL (5 * j + 2) (by omega) (by omega) hL dL_law_286 ?_
      refine g_callVip (n := 2) (wr := oc E h (cset f 0 a) :: wc2) (post := R8_at E m (p8 1) (p8 2) 1 ((xs (5 * j + 2)).toInt)) C (c_X8_at E l m kc le p8 d8 t8 rw8 hp8 1 (by omega) (by omega) ((xs (5 * j + 2)).toInt) (zI_rng _).1 (zI_rng _).2) gL_law_X8_at rfl (by decide +kernel) rfl ⟨⟨rfl, rfl⟩, by decide, show (168 + 2 * j + 1) + 0 ≤ 601024 by omega, show (4549 + 12 * j + 6) + 0 ≤ 7293033 by omega⟩ dL_law_287 rfl (Nat.le_of_ble_eq_true rfl) rfl rfl (List.Perm.refl _) (fun r_2 w_2 h_2 => ?_)
      rw [e1, e2] at h_2
      obtain ⟨rfl, hB3⟩ := nN_at hN h_2
      refine g_istore C [(6, .int (zI a)), (5, .int (zI 0)), (4, .int (zI ((5 * j : Nat) : Int))), (3, .ref h), (2, .ref (m 0)), (1, .ref (c 0)), (0, .ref b)] dL_law_290 (by decide) rfl ?_
      refine g_aload_n C dL_law_292 4 rfl ?_
      obtain ⟨A2, B2, hC2, le2, p9, d9, t9, rw9, hp9, f1, f2, rfl⟩ := hB3
      have hB3 : Both E c F pr m 0 wc2 (rmX E m 0 le2 p9 d9 t9 rw9) := ⟨A2, B2, hC2, le2, p9, d9, t9, rw9, hp9, f1, f2, rfl⟩
      refine g_callVip (n := 0) (wr := oc E h (cset f 0 a) :: wc2) C (c_X8_thrown E l m 0 le2 p9 d9 t9 rw9 hp9) gL_law_X8_thrown rfl (by decide +kernel) rfl ⟨⟨rfl, rfl⟩, by decide, show (168 + 2 * j + 1) + 0 + 0 ≤ 601024 by omega, show (4549 + 12 * j + 6) + 0 + 0 ≤ 7293033 by omega⟩ dL_law_293 rfl (Nat.le_of_ble_eq_true rfl) rfl rfl (List.Perm.refl _) (fun r_3 w_3 h_3 => ?_)
      obtain ⟨rfl, rfl⟩ := h_3
      refine g_iload C dL_law_296 1 rfl ?_
      refine g_icmp_eq C 303 dL_law_298 (by decide) (by omega) (by omega) (by omega) (by omega) (fun c_298 => ?_) (fun c_298 => by exfalso; omega)
      refine g_iload C dL_law_303 1 rfl ?_
      refine g_if_ne C 320 dL_law_305 (by decide) (by omega) (by omega) (fun h9 => absurd rfl h9) (fun _ => ?_)
      refine g_aload_n C dL_law_308 3 rfl ?_
      refine g_iconst C dL_law_309 ?_
      refine g_laldZ C 0 0 rfl (by omega) (by omega) (by decide) dL_law_310 ?_
      refine g_ltop (zL a) (congrArg zL cset_eq) ?_
      refine g_iload C dL_law_311 0 rfl ?_
      refine g_i2l C dL_law_313 (by omega) (by omega) ?_
      refine g_lcmp_eq C 320 dL_law_314 dL_law_315 (by decide) (by omega) (by omega) (by omega) (by omega) (fun c_314 => ?_) (fun c_314 => by exfalso; omega)
      refine g_goto C 921 dL_law_320 (by decide) ?_
      refine g_lsub C [2, 3, 4, 5, 6] rfl ?_
      refine g_wide C (ce2 := 168 + 2 * j + 2) (so2 := 4549 + 12 * j + 12) (by omega) (by omega) ?_
      exact next 0 (cset f 0 a) _ _ hB3
    · refine g_perm C (pm2 _ _ _) ?_
      have hk2 : k = 1 ∨ k = 2 := by rcases List.mem_cons.mp hk with h9 | h9; exact Or.inl (Prod.mk.inj h9).2; cases h9
      refine g_istore C [(5, .int (zI k)), (4, .int (zI ((5 * j : Nat) : Int))), (3, .ref h), (2, .ref (m 0)), (1, .ref (c 0)), (0, .ref b)] dL_law_264 (by decide) rfl ?_
      refine g_aload_n C dL_law_266 3 rfl ?_
      refine g_aload_n C dL_law_267 5 rfl ?_
      refine g_iload C dL_law_268 1 rfl ?_
      refine g_iconst C dL_law_270 ?_
      refine g_iadd C dL_law_271 ?_
      refine g_sld CL (5 * j + 1) (by omega) (by omega) hL dL_law_272 ?_
      refine g_if_eq C 280 dL_law_273 (by decide) (zI_rng _).1 (zI_rng _).2 (fun h9 => absurd h9 c_0) (fun _ => ?_)
      refine g_iconst C dL_law_276 ?_
      refine g_goto C 281 dL_law_277 (by decide) ?_
      refine g_aload_n C dL_law_281 5 rfl ?_
      refine g_iload C dL_law_282 1 rfl ?_
      refine g_iconst C dL_law_284 ?_
      refine g_iadd C dL_law_285 ?_
      refine g_sld CL (5 * j + 2) (by omega) (by omega) hL dL_law_286 ?_
      refine g_callVip (n := 2) (wr := oc E h f :: wc2) (post := R8_at E m (p8 1) (p8 2) 1 ((xs (5 * j + 2)).toInt)) C (c_X8_at E l m kc le p8 d8 t8 rw8 hp8 1 (by omega) (by omega) ((xs (5 * j + 2)).toInt) (zI_rng _).1 (zI_rng _).2) gL_law_X8_at rfl (by decide +kernel) rfl ⟨⟨rfl, rfl⟩, by decide, show (168 + 2 * j + 1) + 0 ≤ 601024 by omega, show (4549 + 12 * j + 6) + 0 ≤ 7293033 by omega⟩ dL_law_287 rfl (Nat.le_of_ble_eq_true rfl) rfl rfl (List.Perm.refl _) (fun r_2 w_2 h_2 => ?_)
      rw [e1, e2] at h_2
      have hB3 := nX_at hX hk h_2
      obtain ⟨z, z1, z2, rfl⟩ : ∃ z : Int, -2147483648 ≤ z ∧ z < 2147483648 ∧ r_2 = zI z := ⟨r_2.toInt, (zI_rng r_2).1, (zI_rng r_2).2, (zI_of r_2).symm⟩
      refine g_istore C [(6, .int (zI z)), (5, .int (zI k)), (4, .int (zI ((5 * j : Nat) : Int))), (3, .ref h), (2, .ref (m 0)), (1, .ref (c 0)), (0, .ref b)] dL_law_290 (by decide) rfl ?_
      refine g_aload_n C dL_law_292 4 rfl ?_
      obtain ⟨A2, B2, hC2, le2, p9, d9, t9, rw9, hp9, f1, f2, rfl⟩ := hB3
      have hB3 : Both E c F pr m k wc2 (rmX E m k le2 p9 d9 t9 rw9) := ⟨A2, B2, hC2, le2, p9, d9, t9, rw9, hp9, f1, f2, rfl⟩
      refine g_callVip (n := 0) (wr := oc E h f :: wc2) C (c_X8_thrown E l m k le2 p9 d9 t9 rw9 hp9) gL_law_X8_thrown rfl (by decide +kernel) rfl ⟨⟨rfl, rfl⟩, by decide, show (168 + 2 * j + 1) + 0 + 0 ≤ 601024 by omega, show (4549 + 12 * j + 6) + 0 + 0 ≤ 7293033 by omega⟩ dL_law_293 rfl (Nat.le_of_ble_eq_true rfl) rfl rfl (List.Perm.refl _) (fun r_3 w_3 h_3 => ?_)
      obtain ⟨rfl, rfl⟩ := h_3
      refine g_iload C dL_law_296 1 rfl ?_
      refine g_icmp_eq C 303 dL_law_298 (by decide) (by omega) (by omega) (by omega) (by omega) (fun c_298 => ?_) (fun c_298 => by exfalso; omega)
      refine g_iload C dL_law_303 1 rfl ?_
      refine g_if_ne C 320 dL_law_305 (by decide) (by omega) (by omega) (fun _ => ?_) (fun h9 => by exfalso; omega)
      refine g_goto C 921 dL_law_320 (by decide) ?_
      refine g_lsub C [2, 3, 4, 5, 6] rfl ?_
      refine g_wide C (ce2 := 168 + 2 * j + 2) (so2 := 4549 + 12 * j + 12) (by omega) (by omega) ?_
      exact next k f _ _ hB3
set_option maxHeartbeats 4000000 in
theorem lw_found {G : Gt} {E : ev} {l : Launch} {nx : String} {b L : Nat} {xs : Nat → Int32} (CL : OkL G E l nx b L xs) (hl : l.stackTraces = false) (hL : L ≤ 2560) {c : Nat → Nat} {F : Nat → Nat × Nat × Nat × Nat × Nat} {pr : Nat → Option Nat} (hpr : ∀ j : Nat, j < 21 → pr j = some (F j).1) {m : Nat → Nat} {h : Nat} {f : Nat → Int} {kc : Int} {wc wm : va_W} (hB : Both E c F pr m kc wc wm) (j : Nat) (hj : 5 * j + 5 ≤ L)
    (next : ∀ (kc2 : Int) (f2 : Nat → Int) (wc2 wm2 : va_W), Both E c F pr m kc2 wc2 wm2 → G (168 + 2 * j + 2) (4549 + 12 * j + 12) (oc E h f2 :: (wc2 ++ wm2)) [(4, .int (zI ((5 * j : Nat) : Int))), (3, .ref h), (2, .ref (m 0)), (1, .ref (c 0)), (0, .ref b)] 921 []) : G (168 + 2 * j) (4549 + 12 * j) (oc E h f :: (wc ++ wm)) [(4, .int (zI ((5 * j : Nat) : Int))), (3, .ref h), (2, .ref (m 0)), (1, .ref (c 0)), (0, .ref b)] 323 [] := by
  have C := CL.ok
  obtain ⟨A, B, ⟨p, n, d, bh, o, i, hC, rfl, rfl, hperm⟩, le, p8, d8, t8, rw8, hp8, e1, e2, rfl⟩ := hB
  refine g_aload_n C dL_law_323 3 rfl ?_
  refine g_aload_n C dL_law_324 4 rfl ?_
  refine g_iload C dL_law_325 0 rfl ?_
  refine g_iconst C dL_law_327 ?_
  refine g_iadd C dL_law_328 ?_
  refine g_sld CL (5 * j + 1) (by omega) (by omega) hL dL_law_329 ?_
  refine g_aload_n C dL_law_330 1 rfl ?_
  refine g_callL (n := 3) (wr := rmX E m kc le p8 d8 t8 rw8) CL.t (c_L_found E l hl c F pr p n d bh o i hpr hC ((xs (5 * j + 1)).toInt) (zI_rng _).1 (zI_rng _).2 h f) gL_law_L_found rfl (by decide +kernel) rfl ⟨⟨rfl, rfl⟩, by decide, show 168 + 2 * j + 2 ≤ 601024 by omega, show 4549 + 12 * j + 12 ≤ 7293033 by omega⟩ dL_law_331 rfl (Nat.le_of_ble_eq_true rfl) (pm1 hperm) (fun r_1 w_1 h_1 => ?_)
  rcases h_1 with ⟨a, wc2, ⟨a1, a2⟩, hN, rfl, rfl⟩ | ⟨Ex, k, wc2, hk, hX, rfl, rfl⟩
  · refine g_perm C (pm2 _ _ _) ?_
    refine g_istore C [(5, .int (zI 0)), (4, .int (zI ((5 * j : Nat) : Int))), (3, .ref h), (2, .ref (m 0)), (1, .ref (c 0)), (0, .ref b)] dL_law_334 (by decide) rfl ?_
    refine g_aload_n C dL_law_336 3 rfl ?_
    refine g_aload_n C dL_law_337 5 rfl ?_
    refine g_iload C dL_law_338 1 rfl ?_
    refine g_iconst C dL_law_340 ?_
    refine g_iadd C dL_law_341 ?_
    refine g_sld CL (5 * j + 1) (by omega) (by omega) hL dL_law_342 ?_
    refine g_callVip (n := 1) (wr := oc E h (cset f 0 a) :: wc2) (post := R8_found E m (p8 1) (p8 2) ((xs (5 * j + 1)).toInt)) C (c_X8_found E l m kc le p8 d8 t8 rw8 hp8 ((xs (5 * j + 1)).toInt) (zI_rng _).1 (zI_rng _).2) gL_law_X8_found rfl (by decide +kernel) rfl ⟨⟨rfl, rfl⟩, by decide, show (168 + 2 * j + 2) + 0 ≤ 601024 by omega, show (4549 + 12 * j + 12) + 0 ≤ 7293033 by omega⟩ dL_law_343 rfl (Nat.le_of_ble_eq_true rfl) rfl rfl (List.Perm.refl _) (fun r_2 w_2 h_2 => ?_)
    rw [e1, e2] at h_2
    obtain ⟨rfl, hB3⟩ := nN_found hN h_2
    refine g_istore C [(6, .int (zI a)), (5, .int (zI 0)), (4, .int (zI ((5 * j : Nat) : Int))), (3, .ref h), (2, .ref (m 0)), (1, .ref (c 0)), (0, .ref b)] dL_law_346 (by decide) rfl ?_
    refine g_aload_n C dL_law_348 4 rfl ?_
    obtain ⟨A2, B2, hC2, le2, p9, d9, t9, rw9, hp9, f1, f2, rfl⟩ := hB3
    have hB3 : Both E c F pr m 0 wc2 (rmX E m 0 le2 p9 d9 t9 rw9) := ⟨A2, B2, hC2, le2, p9, d9, t9, rw9, hp9, f1, f2, rfl⟩
    refine g_callVip (n := 0) (wr := oc E h (cset f 0 a) :: wc2) C (c_X8_thrown E l m 0 le2 p9 d9 t9 rw9 hp9) gL_law_X8_thrown rfl (by decide +kernel) rfl ⟨⟨rfl, rfl⟩, by decide, show (168 + 2 * j + 2) + 0 + 0 ≤ 601024 by omega, show (4549 + 12 * j + 12) + 0 + 0 ≤ 7293033 by omega⟩ dL_law_349 rfl (Nat.le_of_ble_eq_true rfl) rfl rfl (List.Perm.refl _) (fun r_3 w_3 h_3 => ?_)
    obtain ⟨rfl, rfl⟩ := h_3
    refine g_iload C dL_law_352 1 rfl ?_
    refine g_icmp_eq C 359 dL_law_354 (by decide) (by omega) (by omega) (by omega) (by omega) (fun c_354 => ?_) (fun c_354 => by exfalso; omega)
    refine g_iload C dL_law_359 1 rfl ?_
    refine g_if_ne C 376 dL_law_361 (by decide) (by omega) (by omega) (fun h9 => absurd rfl h9) (fun _ => ?_)
    refine g_aload_n C dL_law_364 3 rfl ?_
    refine g_iconst C dL_law_365 ?_
    refine g_laldZ C 0 0 rfl (by omega) (by omega) (by decide) dL_law_366 ?_
    refine g_ltop (zL a) (congrArg zL cset_eq) ?_
    refine g_iload C dL_law_367 0 rfl ?_
    refine g_i2l C dL_law_369 (by omega) (by omega) ?_
    refine g_lcmp_eq C 376 dL_law_370 dL_law_371 (by decide) (by omega) (by omega) (by omega) (by omega) (fun c_370 => ?_) (fun c_370 => by exfalso; omega)
    refine g_goto C 921 dL_law_376 (by decide) ?_
    refine g_lsub C [2, 3, 4, 5, 6] rfl ?_
    refine g_wide C (ce2 := 168 + 2 * j + 2) (so2 := 4549 + 12 * j + 12) (by omega) (by omega) ?_
    exact next 0 (cset f 0 a) _ _ hB3
  · refine g_perm C (pm2 _ _ _) ?_
    have hk2 : k = 1 ∨ k = 2 := by rcases List.mem_cons.mp hk with h9 | h9; exact Or.inl (Prod.mk.inj h9).2; exact Or.inr (Prod.mk.inj (List.mem_singleton.mp h9)).2
    refine g_istore C [(5, .int (zI k)), (4, .int (zI ((5 * j : Nat) : Int))), (3, .ref h), (2, .ref (m 0)), (1, .ref (c 0)), (0, .ref b)] dL_law_334 (by decide) rfl ?_
    refine g_aload_n C dL_law_336 3 rfl ?_
    refine g_aload_n C dL_law_337 5 rfl ?_
    refine g_iload C dL_law_338 1 rfl ?_
    refine g_iconst C dL_law_340 ?_
    refine g_iadd C dL_law_341 ?_
    refine g_sld CL (5 * j + 1) (by omega) (by omega) hL dL_law_342 ?_
    refine g_callVip (n := 1) (wr := oc E h f :: wc2) (post := R8_found E m (p8 1) (p8 2) ((xs (5 * j + 1)).toInt)) C (c_X8_found E l m kc le p8 d8 t8 rw8 hp8 ((xs (5 * j + 1)).toInt) (zI_rng _).1 (zI_rng _).2) gL_law_X8_found rfl (by decide +kernel) rfl ⟨⟨rfl, rfl⟩, by decide, show (168 + 2 * j + 2) + 0 ≤ 601024 by omega, show (4549 + 12 * j + 12) + 0 ≤ 7293033 by omega⟩ dL_law_343 rfl (Nat.le_of_ble_eq_true rfl) rfl rfl (List.Perm.refl _) (fun r_2 w_2 h_2 => ?_)
    rw [e1, e2] at h_2
    have hB3 := nX_found hX hk h_2
    obtain ⟨z, z1, z2, rfl⟩ : ∃ z : Int, -2147483648 ≤ z ∧ z < 2147483648 ∧ r_2 = zI z := ⟨r_2.toInt, (zI_rng r_2).1, (zI_rng r_2).2, (zI_of r_2).symm⟩
    refine g_istore C [(6, .int (zI z)), (5, .int (zI k)), (4, .int (zI ((5 * j : Nat) : Int))), (3, .ref h), (2, .ref (m 0)), (1, .ref (c 0)), (0, .ref b)] dL_law_346 (by decide) rfl ?_
    refine g_aload_n C dL_law_348 4 rfl ?_
    obtain ⟨A2, B2, hC2, le2, p9, d9, t9, rw9, hp9, f1, f2, rfl⟩ := hB3
    have hB3 : Both E c F pr m k wc2 (rmX E m k le2 p9 d9 t9 rw9) := ⟨A2, B2, hC2, le2, p9, d9, t9, rw9, hp9, f1, f2, rfl⟩
    refine g_callVip (n := 0) (wr := oc E h f :: wc2) C (c_X8_thrown E l m k le2 p9 d9 t9 rw9 hp9) gL_law_X8_thrown rfl (by decide +kernel) rfl ⟨⟨rfl, rfl⟩, by decide, show (168 + 2 * j + 2) + 0 + 0 ≤ 601024 by omega, show (4549 + 12 * j + 12) + 0 + 0 ≤ 7293033 by omega⟩ dL_law_349 rfl (Nat.le_of_ble_eq_true rfl) rfl rfl (List.Perm.refl _) (fun r_3 w_3 h_3 => ?_)
    obtain ⟨rfl, rfl⟩ := h_3
    refine g_iload C dL_law_352 1 rfl ?_
    refine g_icmp_eq C 359 dL_law_354 (by decide) (by omega) (by omega) (by omega) (by omega) (fun c_354 => ?_) (fun c_354 => by exfalso; omega)
    refine g_iload C dL_law_359 1 rfl ?_
    refine g_if_ne C 376 dL_law_361 (by decide) (by omega) (by omega) (fun _ => ?_) (fun h9 => by exfalso; omega)
    refine g_goto C 921 dL_law_376 (by decide) ?_
    refine g_lsub C [2, 3, 4, 5, 6] rfl ?_
    refine g_wide C (ce2 := 168 + 2 * j + 2) (so2 := 4549 + 12 * j + 12) (by omega) (by omega) ?_
    exact next k f _ _ hB3
set_option maxHeartbeats 4000000 in
theorem lw_degree {G : Gt} {E : ev} {l : Launch} {nx : String} {b L : Nat} {xs : Nat → Int32} (CL : OkL G E l nx b L xs) (hl : l.stackTraces = false) (hL : L ≤ 2560) {c : Nat → Nat} {F : Nat → Nat × Nat × Nat × Nat × Nat} {pr : Nat → Option Nat} (hpr : ∀ j : Nat, j < 21 → pr j = some (F j).1) {m : Nat → Nat} {h : Nat} {f : Nat → Int} {kc : Int} {wc wm : va_W} (hB : Both E c F pr m kc wc wm) (j : Nat) (hj : 5 * j + 5 ≤ L)
    (next : ∀ (kc2 : Int) (f2 : Nat → Int) (wc2 wm2 : va_W), Both E c F pr m kc2 wc2 wm2 → G (168 + 2 * j + 2) (4549 + 12 * j + 12) (oc E h f2 :: (wc2 ++ wm2)) [(4, .int (zI ((5 * j : Nat) : Int))), (3, .ref h), (2, .ref (m 0)), (1, .ref (c 0)), (0, .ref b)] 921 []) : G (168 + 2 * j) (4549 + 12 * j) (oc E h f :: (wc ++ wm)) [(4, .int (zI ((5 * j : Nat) : Int))), (3, .ref h), (2, .ref (m 0)), (1, .ref (c 0)), (0, .ref b)] 379 [] := by
  have C := CL.ok
  obtain ⟨A, B, ⟨p, n, d, bh, o, i, hC, rfl, rfl, hperm⟩, le, p8, d8, t8, rw8, hp8, e1, e2, rfl⟩ := hB
  refine g_aload_n C dL_law_379 3 rfl ?_
  refine g_aload_n C dL_law_380 4 rfl ?_
  refine g_iload C dL_law_381 0 rfl ?_
  refine g_iconst C dL_law_383 ?_
  refine g_iadd C dL_law_384 ?_
  refine g_sld CL (5 * j + 1) (by omega) (by omega) hL dL_law_385 ?_
  refine g_aload_n C dL_law_386 1 rfl ?_
  refine g_callL (n := 3) (wr := rmX E m kc le p8 d8 t8 rw8) CL.t (c_L_degree E l hl c F pr p n d bh o i hpr hC ((xs (5 * j + 1)).toInt) (zI_rng _).1 (zI_rng _).2 h f) gL_law_L_degree rfl (by decide +kernel) rfl ⟨⟨rfl, rfl⟩, by decide, show 168 + 2 * j + 2 ≤ 601024 by omega, show 4549 + 12 * j + 12 ≤ 7293033 by omega⟩ dL_law_387 rfl (Nat.le_of_ble_eq_true rfl) (pm1 hperm) (fun r_1 w_1 h_1 => ?_)
  rcases h_1 with ⟨a, wc2, ⟨a1, a2⟩, hN, rfl, rfl⟩ | ⟨Ex, k, wc2, hk, hX, rfl, rfl⟩
  · refine g_perm C (pm2 _ _ _) ?_
    refine g_istore C [(5, .int (zI 0)), (4, .int (zI ((5 * j : Nat) : Int))), (3, .ref h), (2, .ref (m 0)), (1, .ref (c 0)), (0, .ref b)] dL_law_390 (by decide) rfl ?_
    refine g_aload_n C dL_law_392 3 rfl ?_
    refine g_aload_n C dL_law_393 5 rfl ?_
    refine g_iload C dL_law_394 1 rfl ?_
    refine g_iconst C dL_law_396 ?_
    refine g_iadd C dL_law_397 ?_
    refine g_sld CL (5 * j + 1) (by omega) (by omega) hL dL_law_398 ?_
    refine g_callVip (n := 1) (wr := oc E h (cset f 0 a) :: wc2) (post := R8_degree E m (p8 1) (p8 2) ((xs (5 * j + 1)).toInt)) C (c_X8_degree E l m kc le p8 d8 t8 rw8 hp8 ((xs (5 * j + 1)).toInt) (zI_rng _).1 (zI_rng _).2) gL_law_X8_degree rfl (by decide +kernel) rfl ⟨⟨rfl, rfl⟩, by decide, show (168 + 2 * j + 2) + 0 ≤ 601024 by omega, show (4549 + 12 * j + 12) + 0 ≤ 7293033 by omega⟩ dL_law_399 rfl (Nat.le_of_ble_eq_true rfl) rfl rfl (List.Perm.refl _) (fun r_2 w_2 h_2 => ?_)
    rw [e1, e2] at h_2
    obtain ⟨rfl, hB3⟩ := nN_degree hN h_2
    refine g_istore C [(6, .int (zI a)), (5, .int (zI 0)), (4, .int (zI ((5 * j : Nat) : Int))), (3, .ref h), (2, .ref (m 0)), (1, .ref (c 0)), (0, .ref b)] dL_law_402 (by decide) rfl ?_
    refine g_aload_n C dL_law_404 4 rfl ?_
    obtain ⟨A2, B2, hC2, le2, p9, d9, t9, rw9, hp9, f1, f2, rfl⟩ := hB3
    have hB3 : Both E c F pr m 0 wc2 (rmX E m 0 le2 p9 d9 t9 rw9) := ⟨A2, B2, hC2, le2, p9, d9, t9, rw9, hp9, f1, f2, rfl⟩
    refine g_callVip (n := 0) (wr := oc E h (cset f 0 a) :: wc2) C (c_X8_thrown E l m 0 le2 p9 d9 t9 rw9 hp9) gL_law_X8_thrown rfl (by decide +kernel) rfl ⟨⟨rfl, rfl⟩, by decide, show (168 + 2 * j + 2) + 0 + 0 ≤ 601024 by omega, show (4549 + 12 * j + 12) + 0 + 0 ≤ 7293033 by omega⟩ dL_law_405 rfl (Nat.le_of_ble_eq_true rfl) rfl rfl (List.Perm.refl _) (fun r_3 w_3 h_3 => ?_)
    obtain ⟨rfl, rfl⟩ := h_3
    refine g_iload C dL_law_408 1 rfl ?_
    refine g_icmp_eq C 415 dL_law_410 (by decide) (by omega) (by omega) (by omega) (by omega) (fun c_410 => ?_) (fun c_410 => by exfalso; omega)
    refine g_iload C dL_law_415 1 rfl ?_
    refine g_if_ne C 432 dL_law_417 (by decide) (by omega) (by omega) (fun h9 => absurd rfl h9) (fun _ => ?_)
    refine g_aload_n C dL_law_420 3 rfl ?_
    refine g_iconst C dL_law_421 ?_
    refine g_laldZ C 0 0 rfl (by omega) (by omega) (by decide) dL_law_422 ?_
    refine g_ltop (zL a) (congrArg zL cset_eq) ?_
    refine g_iload C dL_law_423 0 rfl ?_
    refine g_i2l C dL_law_425 (by omega) (by omega) ?_
    refine g_lcmp_eq C 432 dL_law_426 dL_law_427 (by decide) (by omega) (by omega) (by omega) (by omega) (fun c_426 => ?_) (fun c_426 => by exfalso; omega)
    refine g_goto C 921 dL_law_432 (by decide) ?_
    refine g_lsub C [2, 3, 4, 5, 6] rfl ?_
    refine g_wide C (ce2 := 168 + 2 * j + 2) (so2 := 4549 + 12 * j + 12) (by omega) (by omega) ?_
    exact next 0 (cset f 0 a) _ _ hB3
  · refine g_perm C (pm2 _ _ _) ?_
    have hk2 : k = 1 ∨ k = 2 := by rcases List.mem_cons.mp hk with h9 | h9; exact Or.inl (Prod.mk.inj h9).2; exact Or.inr (Prod.mk.inj (List.mem_singleton.mp h9)).2
    refine g_istore C [(5, .int (zI k)), (4, .int (zI ((5 * j : Nat) : Int))), (3, .ref h), (2, .ref (m 0)), (1, .ref (c 0)), (0, .ref b)] dL_law_390 (by decide) rfl ?_
    refine g_aload_n C dL_law_392 3 rfl ?_
    refine g_aload_n C dL_law_393 5 rfl ?_
    refine g_iload C dL_law_394 1 rfl ?_
    refine g_iconst C dL_law_396 ?_
    refine g_iadd C dL_law_397 ?_
    refine g_sld CL (5 * j + 1) (by omega) (by omega) hL dL_law_398 ?_
    refine g_callVip (n := 1) (wr := oc E h f :: wc2) (post := R8_degree E m (p8 1) (p8 2) ((xs (5 * j + 1)).toInt)) C (c_X8_degree E l m kc le p8 d8 t8 rw8 hp8 ((xs (5 * j + 1)).toInt) (zI_rng _).1 (zI_rng _).2) gL_law_X8_degree rfl (by decide +kernel) rfl ⟨⟨rfl, rfl⟩, by decide, show (168 + 2 * j + 2) + 0 ≤ 601024 by omega, show (4549 + 12 * j + 12) + 0 ≤ 7293033 by omega⟩ dL_law_399 rfl (Nat.le_of_ble_eq_true rfl) rfl rfl (List.Perm.refl _) (fun r_2 w_2 h_2 => ?_)
    rw [e1, e2] at h_2
    have hB3 := nX_degree hX hk h_2
    obtain ⟨z, z1, z2, rfl⟩ : ∃ z : Int, -2147483648 ≤ z ∧ z < 2147483648 ∧ r_2 = zI z := ⟨r_2.toInt, (zI_rng r_2).1, (zI_rng r_2).2, (zI_of r_2).symm⟩
    refine g_istore C [(6, .int (zI z)), (5, .int (zI k)), (4, .int (zI ((5 * j : Nat) : Int))), (3, .ref h), (2, .ref (m 0)), (1, .ref (c 0)), (0, .ref b)] dL_law_402 (by decide) rfl ?_
    refine g_aload_n C dL_law_404 4 rfl ?_
    obtain ⟨A2, B2, hC2, le2, p9, d9, t9, rw9, hp9, f1, f2, rfl⟩ := hB3
    have hB3 : Both E c F pr m k wc2 (rmX E m k le2 p9 d9 t9 rw9) := ⟨A2, B2, hC2, le2, p9, d9, t9, rw9, hp9, f1, f2, rfl⟩
    refine g_callVip (n := 0) (wr := oc E h f :: wc2) C (c_X8_thrown E l m k le2 p9 d9 t9 rw9 hp9) gL_law_X8_thrown rfl (by decide +kernel) rfl ⟨⟨rfl, rfl⟩, by decide, show (168 + 2 * j + 2) + 0 + 0 ≤ 601024 by omega, show (4549 + 12 * j + 12) + 0 + 0 ≤ 7293033 by omega⟩ dL_law_405 rfl (Nat.le_of_ble_eq_true rfl) rfl rfl (List.Perm.refl _) (fun r_3 w_3 h_3 => ?_)
    obtain ⟨rfl, rfl⟩ := h_3
    refine g_iload C dL_law_408 1 rfl ?_
    refine g_icmp_eq C 415 dL_law_410 (by decide) (by omega) (by omega) (by omega) (by omega) (fun c_410 => ?_) (fun c_410 => by exfalso; omega)
    refine g_iload C dL_law_415 1 rfl ?_
    refine g_if_ne C 432 dL_law_417 (by decide) (by omega) (by omega) (fun _ => ?_) (fun h9 => by exfalso; omega)
    refine g_goto C 921 dL_law_432 (by decide) ?_
    refine g_lsub C [2, 3, 4, 5, 6] rfl ?_
    refine g_wide C (ce2 := 168 + 2 * j + 2) (so2 := 4549 + 12 * j + 12) (by omega) (by omega) ?_
    exact next k f _ _ hB3
set_option maxHeartbeats 4000000 in
theorem lw_split {G : Gt} {E : ev} {l : Launch} {nx : String} {b L : Nat} {xs : Nat → Int32} (CL : OkL G E l nx b L xs) (hl : l.stackTraces = false) (hL : L ≤ 2560) {c : Nat → Nat} {F : Nat → Nat × Nat × Nat × Nat × Nat} {pr : Nat → Option Nat} (hpr : ∀ j : Nat, j < 21 → pr j = some (F j).1) {m : Nat → Nat} {h : Nat} {f : Nat → Int} {kc : Int} {wc wm : va_W} (hB : Both E c F pr m kc wc wm) (j : Nat) (hj : 5 * j + 5 ≤ L)
    (next : ∀ (kc2 : Int) (f2 : Nat → Int) (wc2 wm2 : va_W), Both E c F pr m kc2 wc2 wm2 → G (168 + 2 * j + 2) (4549 + 12 * j + 12) (oc E h f2 :: (wc2 ++ wm2)) [(4, .int (zI ((5 * j : Nat) : Int))), (3, .ref h), (2, .ref (m 0)), (1, .ref (c 0)), (0, .ref b)] 921 []) : G (168 + 2 * j) (4549 + 12 * j) (oc E h f :: (wc ++ wm)) [(4, .int (zI ((5 * j : Nat) : Int))), (3, .ref h), (2, .ref (m 0)), (1, .ref (c 0)), (0, .ref b)] 435 [] := by
  have C := CL.ok
  obtain ⟨A, B, ⟨p, n, d, bh, o, i, hC, rfl, rfl, hperm⟩, le, p8, d8, t8, rw8, hp8, e1, e2, rfl⟩ := hB
  refine g_aload_n C dL_law_435 3 rfl ?_
  refine g_aload_n C dL_law_436 4 rfl ?_
  refine g_iload C dL_law_437 0 rfl ?_
  refine g_iconst C dL_law_439 ?_
  refine g_iadd C dL_law_440 ?_
  refine g_sld CL (5 * j + 1) (by omega) (by omega) hL dL_law_441 ?_
  refine g_aload_n C dL_law_442 4 rfl ?_
  refine g_iload C dL_law_443 0 rfl ?_
  refine g_iconst C dL_law_445 ?_
  refine g_iadd C dL_law_446 ?_
  refine g_sld CL (5 * j + 2) (by omega) (by omega) hL dL_law_447 ?_
  refine g_aload_n C dL_law_448 1 rfl ?_
  refine g_callL (n := 4) (wr := rmX E m kc le p8 d8 t8 rw8) CL.t (c_L_split E l hl c F pr p n d bh o i hpr hC ((xs (5 * j + 1)).toInt) (zI_rng _).1 (zI_rng _).2 ((xs (5 * j + 2)).toInt) (zI_rng _).1 (zI_rng _).2 h f) gL_law_L_split rfl (by decide +kernel) rfl ⟨⟨rfl, rfl⟩, by decide, show 168 + 2 * j + 2 ≤ 601024 by omega, show 4549 + 12 * j + 12 ≤ 7293033 by omega⟩ dL_law_449 rfl (Nat.le_of_ble_eq_true rfl) (pm1 hperm) (fun r_1 w_1 h_1 => ?_)
  rcases h_1 with ⟨a, wc2, ⟨a1, a2⟩, hN, rfl, rfl⟩ | ⟨Ex, k, wc2, hk, hX, rfl, rfl⟩
  · refine g_perm C (pm2 _ _ _) ?_
    refine g_istore C [(5, .int (zI 0)), (4, .int (zI ((5 * j : Nat) : Int))), (3, .ref h), (2, .ref (m 0)), (1, .ref (c 0)), (0, .ref b)] dL_law_452 (by decide) rfl ?_
    refine g_aload_n C dL_law_454 3 rfl ?_
    refine g_aload_n C dL_law_455 5 rfl ?_
    refine g_iload C dL_law_456 1 rfl ?_
    refine g_iconst C dL_law_458 ?_
    refine g_iadd C dL_law_459 ?_
    refine g_sld CL (5 * j + 1) (by omega) (by omega) hL dL_law_460 ?_
    refine g_aload_n C dL_law_461 5 rfl ?_
    refine g_iload C dL_law_462 1 rfl ?_
    refine g_iconst C dL_law_464 ?_
    refine g_iadd C dL_law_465 ?_
    refine g_sld CL (5 * j + 2) (by omega) (by omega) hL dL_law_466 ?_
    refine g_callVip (n := 2) (wr := oc E h (cset f 0 a) :: wc2) (post := R8_split E m (p8 1) (p8 2) ((xs (5 * j + 1)).toInt) ((xs (5 * j + 2)).toInt)) C (c_X8_split E l m kc le p8 d8 t8 rw8 hp8 ((xs (5 * j + 1)).toInt) (zI_rng _).1 (zI_rng _).2 ((xs (5 * j + 2)).toInt) (zI_rng _).1 (zI_rng _).2) gL_law_X8_split rfl (by decide +kernel) rfl ⟨⟨rfl, rfl⟩, by decide, show (168 + 2 * j + 2) + 0 ≤ 601024 by omega, show (4549 + 12 * j + 12) + 0 ≤ 7293033 by omega⟩ dL_law_467 rfl (Nat.le_of_ble_eq_true rfl) rfl rfl (List.Perm.refl _) (fun r_2 w_2 h_2 => ?_)
    rw [e1, e2] at h_2
    obtain ⟨rfl, hB3⟩ := nN_split hN h_2
    refine g_istore C [(6, .int (zI a)), (5, .int (zI 0)), (4, .int (zI ((5 * j : Nat) : Int))), (3, .ref h), (2, .ref (m 0)), (1, .ref (c 0)), (0, .ref b)] dL_law_470 (by decide) rfl ?_
    refine g_aload_n C dL_law_472 4 rfl ?_
    obtain ⟨A2, B2, hC2, le2, p9, d9, t9, rw9, hp9, f1, f2, rfl⟩ := hB3
    have hB3 : Both E c F pr m 0 wc2 (rmX E m 0 le2 p9 d9 t9 rw9) := ⟨A2, B2, hC2, le2, p9, d9, t9, rw9, hp9, f1, f2, rfl⟩
    refine g_callVip (n := 0) (wr := oc E h (cset f 0 a) :: wc2) C (c_X8_thrown E l m 0 le2 p9 d9 t9 rw9 hp9) gL_law_X8_thrown rfl (by decide +kernel) rfl ⟨⟨rfl, rfl⟩, by decide, show (168 + 2 * j + 2) + 0 + 0 ≤ 601024 by omega, show (4549 + 12 * j + 12) + 0 + 0 ≤ 7293033 by omega⟩ dL_law_473 rfl (Nat.le_of_ble_eq_true rfl) rfl rfl (List.Perm.refl _) (fun r_3 w_3 h_3 => ?_)
    obtain ⟨rfl, rfl⟩ := h_3
    refine g_iload C dL_law_476 1 rfl ?_
    refine g_icmp_eq C 483 dL_law_478 (by decide) (by omega) (by omega) (by omega) (by omega) (fun c_478 => ?_) (fun c_478 => by exfalso; omega)
    refine g_iload C dL_law_483 1 rfl ?_
    refine g_if_ne C 500 dL_law_485 (by decide) (by omega) (by omega) (fun h9 => absurd rfl h9) (fun _ => ?_)
    refine g_aload_n C dL_law_488 3 rfl ?_
    refine g_iconst C dL_law_489 ?_
    refine g_laldZ C 0 0 rfl (by omega) (by omega) (by decide) dL_law_490 ?_
    refine g_ltop (zL a) (congrArg zL cset_eq) ?_
    refine g_iload C dL_law_491 0 rfl ?_
    refine g_i2l C dL_law_493 (by omega) (by omega) ?_
    refine g_lcmp_eq C 500 dL_law_494 dL_law_495 (by decide) (by omega) (by omega) (by omega) (by omega) (fun c_494 => ?_) (fun c_494 => by exfalso; omega)
    refine g_goto C 921 dL_law_500 (by decide) ?_
    refine g_lsub C [2, 3, 4, 5, 6] rfl ?_
    refine g_wide C (ce2 := 168 + 2 * j + 2) (so2 := 4549 + 12 * j + 12) (by omega) (by omega) ?_
    exact next 0 (cset f 0 a) _ _ hB3
  · refine g_perm C (pm2 _ _ _) ?_
    have hk2 : k = 1 ∨ k = 2 := by rcases List.mem_cons.mp hk with h9 | h9; exact Or.inl (Prod.mk.inj h9).2; exact Or.inr (Prod.mk.inj (List.mem_singleton.mp h9)).2
    refine g_istore C [(5, .int (zI k)), (4, .int (zI ((5 * j : Nat) : Int))), (3, .ref h), (2, .ref (m 0)), (1, .ref (c 0)), (0, .ref b)] dL_law_452 (by decide) rfl ?_
    refine g_aload_n C dL_law_454 3 rfl ?_
    refine g_aload_n C dL_law_455 5 rfl ?_
    refine g_iload C dL_law_456 1 rfl ?_
    refine g_iconst C dL_law_458 ?_
    refine g_iadd C dL_law_459 ?_
    refine g_sld CL (5 * j + 1) (by omega) (by omega) hL dL_law_460 ?_
    refine g_aload_n C dL_law_461 5 rfl ?_
    refine g_iload C dL_law_462 1 rfl ?_
    refine g_iconst C dL_law_464 ?_
    refine g_iadd C dL_law_465 ?_
    refine g_sld CL (5 * j + 2) (by omega) (by omega) hL dL_law_466 ?_
    refine g_callVip (n := 2) (wr := oc E h f :: wc2) (post := R8_split E m (p8 1) (p8 2) ((xs (5 * j + 1)).toInt) ((xs (5 * j + 2)).toInt)) C (c_X8_split E l m kc le p8 d8 t8 rw8 hp8 ((xs (5 * j + 1)).toInt) (zI_rng _).1 (zI_rng _).2 ((xs (5 * j + 2)).toInt) (zI_rng _).1 (zI_rng _).2) gL_law_X8_split rfl (by decide +kernel) rfl ⟨⟨rfl, rfl⟩, by decide, show (168 + 2 * j + 2) + 0 ≤ 601024 by omega, show (4549 + 12 * j + 12) + 0 ≤ 7293033 by omega⟩ dL_law_467 rfl (Nat.le_of_ble_eq_true rfl) rfl rfl (List.Perm.refl _) (fun r_2 w_2 h_2 => ?_)
    rw [e1, e2] at h_2
    have hB3 := nX_split hX hk h_2
    obtain ⟨z, z1, z2, rfl⟩ : ∃ z : Int, -2147483648 ≤ z ∧ z < 2147483648 ∧ r_2 = zI z := ⟨r_2.toInt, (zI_rng r_2).1, (zI_rng r_2).2, (zI_of r_2).symm⟩
    refine g_istore C [(6, .int (zI z)), (5, .int (zI k)), (4, .int (zI ((5 * j : Nat) : Int))), (3, .ref h), (2, .ref (m 0)), (1, .ref (c 0)), (0, .ref b)] dL_law_470 (by decide) rfl ?_
    refine g_aload_n C dL_law_472 4 rfl ?_
    obtain ⟨A2, B2, hC2, le2, p9, d9, t9, rw9, hp9, f1, f2, rfl⟩ := hB3
    have hB3 : Both E c F pr m k wc2 (rmX E m k le2 p9 d9 t9 rw9) := ⟨A2, B2, hC2, le2, p9, d9, t9, rw9, hp9, f1, f2, rfl⟩
    refine g_callVip (n := 0) (wr := oc E h f :: wc2) C (c_X8_thrown E l m k le2 p9 d9 t9 rw9 hp9) gL_law_X8_thrown rfl (by decide +kernel) rfl ⟨⟨rfl, rfl⟩, by decide, show (168 + 2 * j + 2) + 0 + 0 ≤ 601024 by omega, show (4549 + 12 * j + 12) + 0 + 0 ≤ 7293033 by omega⟩ dL_law_473 rfl (Nat.le_of_ble_eq_true rfl) rfl rfl (List.Perm.refl _) (fun r_3 w_3 h_3 => ?_)
    obtain ⟨rfl, rfl⟩ := h_3
    refine g_iload C dL_law_476 1 rfl ?_
    refine g_icmp_eq C 483 dL_law_478 (by decide) (by omega) (by omega) (by omega) (by omega) (fun c_478 => ?_) (fun c_478 => by exfalso; omega)
    refine g_iload C dL_law_483 1 rfl ?_
    refine g_if_ne C 500 dL_law_485 (by decide) (by omega) (by omega) (fun _ => ?_) (fun h9 => by exfalso; omega)
    refine g_goto C 921 dL_law_500 (by decide) ?_
    refine g_lsub C [2, 3, 4, 5, 6] rfl ?_
    refine g_wide C (ce2 := 168 + 2 * j + 2) (so2 := 4549 + 12 * j + 12) (by omega) (by omega) ?_
    exact next k f _ _ hB3
set_option maxHeartbeats 4000000 in
theorem lw_run {G : Gt} {E : ev} {l : Launch} {nx : String} {b L : Nat} {xs : Nat → Int32} (CL : OkL G E l nx b L xs) (hl : l.stackTraces = false) (hL : L ≤ 2560) {c : Nat → Nat} {F : Nat → Nat × Nat × Nat × Nat × Nat} {pr : Nat → Option Nat} (hpr : ∀ j : Nat, j < 21 → pr j = some (F j).1) {m : Nat → Nat} {h : Nat} {f : Nat → Int} {kc : Int} {wc wm : va_W} (hB : Both E c F pr m kc wc wm) (j : Nat) (hj : 5 * j + 5 ≤ L)
    (next : ∀ (kc2 : Int) (f2 : Nat → Int) (wc2 wm2 : va_W), Both E c F pr m kc2 wc2 wm2 → G (168 + 2 * j + 2) (4549 + 12 * j + 12) (oc E h f2 :: (wc2 ++ wm2)) [(4, .int (zI ((5 * j : Nat) : Int))), (3, .ref h), (2, .ref (m 0)), (1, .ref (c 0)), (0, .ref b)] 921 []) : G (168 + 2 * j) (4549 + 12 * j) (oc E h f :: (wc ++ wm)) [(4, .int (zI ((5 * j : Nat) : Int))), (3, .ref h), (2, .ref (m 0)), (1, .ref (c 0)), (0, .ref b)] 503 [] := by
  have C := CL.ok
  obtain ⟨A, B, ⟨p, n, d, bh, o, i, hC, rfl, rfl, hperm⟩, le, p8, d8, t8, rw8, hp8, e1, e2, rfl⟩ := hB
  refine g_aload_n C dL_law_503 3 rfl ?_
  refine g_aload_n C dL_law_504 1 rfl ?_
  refine g_callL (n := 2) (wr := rmX E m kc le p8 d8 t8 rw8) CL.t (c_L_run E l hl c F pr p n d bh o i hpr hC h f) gL_law_L_run rfl (by decide +kernel) rfl ⟨⟨rfl, rfl⟩, by decide, show 168 + 2 * j + 1 ≤ 601024 by omega, show 4549 + 12 * j + 6 ≤ 7293033 by omega⟩ dL_law_505 rfl (Nat.le_of_ble_eq_true rfl) (pm1 hperm) (fun r_1 w_1 h_1 => ?_)
  rcases h_1 with ⟨a, wc2, ⟨a1, a2⟩, hN, rfl, rfl⟩ | ⟨Ex, k, wc2, hk, hX, rfl, rfl⟩
  · refine g_perm C (pm2 _ _ _) ?_
    refine g_istore C [(5, .int (zI 0)), (4, .int (zI ((5 * j : Nat) : Int))), (3, .ref h), (2, .ref (m 0)), (1, .ref (c 0)), (0, .ref b)] dL_law_508 (by decide) rfl ?_
    refine g_aload_n C dL_law_510 3 rfl ?_
    refine g_callVip (n := 0) (wr := oc E h (cset f 0 a) :: wc2) (post := R8_run E m (p8 1) (p8 2)) C (c_X8_run E l m kc le p8 d8 t8 rw8 hp8) gL_law_X8_run rfl (by decide +kernel) rfl ⟨⟨rfl, rfl⟩, by decide, show (168 + 2 * j + 1) + 0 ≤ 601024 by omega, show (4549 + 12 * j + 6) + 0 ≤ 7293033 by omega⟩ dL_law_511 rfl (Nat.le_of_ble_eq_true rfl) rfl rfl (List.Perm.refl _) (fun r_2 w_2 h_2 => ?_)
    rw [e1, e2] at h_2
    obtain ⟨rfl, hB3⟩ := nN_run hN h_2
    refine g_istore C [(6, .int (zI a)), (5, .int (zI 0)), (4, .int (zI ((5 * j : Nat) : Int))), (3, .ref h), (2, .ref (m 0)), (1, .ref (c 0)), (0, .ref b)] dL_law_514 (by decide) rfl ?_
    refine g_aload_n C dL_law_516 4 rfl ?_
    obtain ⟨A2, B2, hC2, le2, p9, d9, t9, rw9, hp9, f1, f2, rfl⟩ := hB3
    have hB3 : Both E c F pr m 0 wc2 (rmX E m 0 le2 p9 d9 t9 rw9) := ⟨A2, B2, hC2, le2, p9, d9, t9, rw9, hp9, f1, f2, rfl⟩
    refine g_callVip (n := 0) (wr := oc E h (cset f 0 a) :: wc2) C (c_X8_thrown E l m 0 le2 p9 d9 t9 rw9 hp9) gL_law_X8_thrown rfl (by decide +kernel) rfl ⟨⟨rfl, rfl⟩, by decide, show (168 + 2 * j + 1) + 0 + 0 ≤ 601024 by omega, show (4549 + 12 * j + 6) + 0 + 0 ≤ 7293033 by omega⟩ dL_law_517 rfl (Nat.le_of_ble_eq_true rfl) rfl rfl (List.Perm.refl _) (fun r_3 w_3 h_3 => ?_)
    obtain ⟨rfl, rfl⟩ := h_3
    refine g_iload C dL_law_520 1 rfl ?_
    refine g_icmp_eq C 527 dL_law_522 (by decide) (by omega) (by omega) (by omega) (by omega) (fun c_522 => ?_) (fun c_522 => by exfalso; omega)
    refine g_iload C dL_law_527 1 rfl ?_
    refine g_if_ne C 544 dL_law_529 (by decide) (by omega) (by omega) (fun h9 => absurd rfl h9) (fun _ => ?_)
    refine g_aload_n C dL_law_532 3 rfl ?_
    refine g_iconst C dL_law_533 ?_
    refine g_laldZ C 0 0 rfl (by omega) (by omega) (by decide) dL_law_534 ?_
    refine g_ltop (zL a) (congrArg zL cset_eq) ?_
    refine g_iload C dL_law_535 0 rfl ?_
    refine g_i2l C dL_law_537 (by omega) (by omega) ?_
    refine g_lcmp_eq C 544 dL_law_538 dL_law_539 (by decide) (by omega) (by omega) (by omega) (by omega) (fun c_538 => ?_) (fun c_538 => by exfalso; omega)
    refine g_goto C 921 dL_law_544 (by decide) ?_
    refine g_lsub C [2, 3, 4, 5, 6] rfl ?_
    refine g_wide C (ce2 := 168 + 2 * j + 2) (so2 := 4549 + 12 * j + 12) (by omega) (by omega) ?_
    exact next 0 (cset f 0 a) _ _ hB3
  · refine g_perm C (pm2 _ _ _) ?_
    have hk2 : k = 1 ∨ k = 2 := by rcases List.mem_cons.mp hk with h9 | h9; exact Or.inl (Prod.mk.inj h9).2; cases h9
    refine g_istore C [(5, .int (zI k)), (4, .int (zI ((5 * j : Nat) : Int))), (3, .ref h), (2, .ref (m 0)), (1, .ref (c 0)), (0, .ref b)] dL_law_508 (by decide) rfl ?_
    refine g_aload_n C dL_law_510 3 rfl ?_
    refine g_callVip (n := 0) (wr := oc E h f :: wc2) (post := R8_run E m (p8 1) (p8 2)) C (c_X8_run E l m kc le p8 d8 t8 rw8 hp8) gL_law_X8_run rfl (by decide +kernel) rfl ⟨⟨rfl, rfl⟩, by decide, show (168 + 2 * j + 1) + 0 ≤ 601024 by omega, show (4549 + 12 * j + 6) + 0 ≤ 7293033 by omega⟩ dL_law_511 rfl (Nat.le_of_ble_eq_true rfl) rfl rfl (List.Perm.refl _) (fun r_2 w_2 h_2 => ?_)
    rw [e1, e2] at h_2
    have hB3 := nX_run hX hk h_2
    obtain ⟨z, z1, z2, rfl⟩ : ∃ z : Int, -2147483648 ≤ z ∧ z < 2147483648 ∧ r_2 = zI z := ⟨r_2.toInt, (zI_rng r_2).1, (zI_rng r_2).2, (zI_of r_2).symm⟩
    refine g_istore C [(6, .int (zI z)), (5, .int (zI k)), (4, .int (zI ((5 * j : Nat) : Int))), (3, .ref h), (2, .ref (m 0)), (1, .ref (c 0)), (0, .ref b)] dL_law_514 (by decide) rfl ?_
    refine g_aload_n C dL_law_516 4 rfl ?_
    obtain ⟨A2, B2, hC2, le2, p9, d9, t9, rw9, hp9, f1, f2, rfl⟩ := hB3
    have hB3 : Both E c F pr m k wc2 (rmX E m k le2 p9 d9 t9 rw9) := ⟨A2, B2, hC2, le2, p9, d9, t9, rw9, hp9, f1, f2, rfl⟩
    refine g_callVip (n := 0) (wr := oc E h f :: wc2) C (c_X8_thrown E l m k le2 p9 d9 t9 rw9 hp9) gL_law_X8_thrown rfl (by decide +kernel) rfl ⟨⟨rfl, rfl⟩, by decide, show (168 + 2 * j + 1) + 0 + 0 ≤ 601024 by omega, show (4549 + 12 * j + 6) + 0 + 0 ≤ 7293033 by omega⟩ dL_law_517 rfl (Nat.le_of_ble_eq_true rfl) rfl rfl (List.Perm.refl _) (fun r_3 w_3 h_3 => ?_)
    obtain ⟨rfl, rfl⟩ := h_3
    refine g_iload C dL_law_520 1 rfl ?_
    refine g_icmp_eq C 527 dL_law_522 (by decide) (by omega) (by omega) (by omega) (by omega) (fun c_522 => ?_) (fun c_522 => by exfalso; omega)
    refine g_iload C dL_law_527 1 rfl ?_
    refine g_if_ne C 544 dL_law_529 (by decide) (by omega) (by omega) (fun _ => ?_) (fun h9 => by exfalso; omega)
    refine g_goto C 921 dL_law_544 (by decide) ?_
    refine g_lsub C [2, 3, 4, 5, 6] rfl ?_
    refine g_wide C (ce2 := 168 + 2 * j + 2) (so2 := 4549 + 12 * j + 12) (by omega) (by omega) ?_
    exact next k f _ _ hB3
set_option maxHeartbeats 4000000 in
theorem lw_answer {G : Gt} {E : ev} {l : Launch} {nx : String} {b L : Nat} {xs : Nat → Int32} (CL : OkL G E l nx b L xs) (hl : l.stackTraces = false) (hL : L ≤ 2560) {c : Nat → Nat} {F : Nat → Nat × Nat × Nat × Nat × Nat} {pr : Nat → Option Nat} (hpr : ∀ j : Nat, j < 21 → pr j = some (F j).1) {m : Nat → Nat} {h : Nat} {f : Nat → Int} {kc : Int} {wc wm : va_W} (hB : Both E c F pr m kc wc wm) (j : Nat) (hj : 5 * j + 5 ≤ L)
    (next : ∀ (kc2 : Int) (f2 : Nat → Int) (wc2 wm2 : va_W), Both E c F pr m kc2 wc2 wm2 → G (168 + 2 * j + 2) (4549 + 12 * j + 12) (oc E h f2 :: (wc2 ++ wm2)) [(4, .int (zI ((5 * j : Nat) : Int))), (3, .ref h), (2, .ref (m 0)), (1, .ref (c 0)), (0, .ref b)] 921 []) : G (168 + 2 * j) (4549 + 12 * j) (oc E h f :: (wc ++ wm)) [(4, .int (zI ((5 * j : Nat) : Int))), (3, .ref h), (2, .ref (m 0)), (1, .ref (c 0)), (0, .ref b)] 547 [] := by
  have C := CL.ok
  obtain ⟨A, B, ⟨p, n, d, bh, o, i, hC, rfl, rfl, hperm⟩, le, p8, d8, t8, rw8, hp8, e1, e2, rfl⟩ := hB
  refine g_aload_n C dL_law_547 3 rfl ?_
  refine g_aload_n C dL_law_548 4 rfl ?_
  refine g_iload C dL_law_549 0 rfl ?_
  refine g_iconst C dL_law_551 ?_
  refine g_iadd C dL_law_552 ?_
  refine g_sld CL (5 * j + 1) (by omega) (by omega) hL dL_law_553 ?_
  refine g_aload_n C dL_law_554 1 rfl ?_
  refine g_callL (n := 3) (wr := rmX E m kc le p8 d8 t8 rw8) CL.t (c_L_answer E l hl c F pr p n d bh o i hpr hC ((xs (5 * j + 1)).toInt) (zI_rng _).1 (zI_rng _).2 h f) gL_law_L_answer rfl (by decide +kernel) rfl ⟨⟨rfl, rfl⟩, by decide, show 168 + 2 * j + 2 ≤ 601024 by omega, show 4549 + 12 * j + 12 ≤ 7293033 by omega⟩ dL_law_555 rfl (Nat.le_of_ble_eq_true rfl) (pm1 hperm) (fun r_1 w_1 h_1 => ?_)
  rcases h_1 with ⟨a, wc2, ⟨a1, a2⟩, hN, rfl, rfl⟩ | ⟨Ex, k, wc2, hk, hX, rfl, rfl⟩
  · refine g_perm C (pm2 _ _ _) ?_
    refine g_istore C [(5, .int (zI 0)), (4, .int (zI ((5 * j : Nat) : Int))), (3, .ref h), (2, .ref (m 0)), (1, .ref (c 0)), (0, .ref b)] dL_law_558 (by decide) rfl ?_
    refine g_aload_n C dL_law_560 3 rfl ?_
    refine g_aload_n C dL_law_561 5 rfl ?_
    refine g_iload C dL_law_562 1 rfl ?_
    refine g_iconst C dL_law_564 ?_
    refine g_iadd C dL_law_565 ?_
    refine g_sld CL (5 * j + 1) (by omega) (by omega) hL dL_law_566 ?_
    refine g_callVip (n := 1) (wr := oc E h (cset f 0 a) :: wc2) (post := R8_answer E m (p8 1) (p8 2) ((xs (5 * j + 1)).toInt)) C (c_X8_answer E l m kc le p8 d8 t8 rw8 hp8 ((xs (5 * j + 1)).toInt) (zI_rng _).1 (zI_rng _).2) gL_law_X8_answer rfl (by decide +kernel) rfl ⟨⟨rfl, rfl⟩, by decide, show (168 + 2 * j + 2) + 0 ≤ 601024 by omega, show (4549 + 12 * j + 12) + 0 ≤ 7293033 by omega⟩ dL_law_567 rfl (Nat.le_of_ble_eq_true rfl) rfl rfl (List.Perm.refl _) (fun r_2 w_2 h_2 => ?_)
    rw [e1, e2] at h_2
    obtain ⟨rfl, hB3⟩ := nN_answer hN h_2
    refine g_istore C [(6, .int (zI a)), (5, .int (zI 0)), (4, .int (zI ((5 * j : Nat) : Int))), (3, .ref h), (2, .ref (m 0)), (1, .ref (c 0)), (0, .ref b)] dL_law_570 (by decide) rfl ?_
    refine g_aload_n C dL_law_572 4 rfl ?_
    obtain ⟨A2, B2, hC2, le2, p9, d9, t9, rw9, hp9, f1, f2, rfl⟩ := hB3
    have hB3 : Both E c F pr m 0 wc2 (rmX E m 0 le2 p9 d9 t9 rw9) := ⟨A2, B2, hC2, le2, p9, d9, t9, rw9, hp9, f1, f2, rfl⟩
    refine g_callVip (n := 0) (wr := oc E h (cset f 0 a) :: wc2) C (c_X8_thrown E l m 0 le2 p9 d9 t9 rw9 hp9) gL_law_X8_thrown rfl (by decide +kernel) rfl ⟨⟨rfl, rfl⟩, by decide, show (168 + 2 * j + 2) + 0 + 0 ≤ 601024 by omega, show (4549 + 12 * j + 12) + 0 + 0 ≤ 7293033 by omega⟩ dL_law_573 rfl (Nat.le_of_ble_eq_true rfl) rfl rfl (List.Perm.refl _) (fun r_3 w_3 h_3 => ?_)
    obtain ⟨rfl, rfl⟩ := h_3
    refine g_iload C dL_law_576 1 rfl ?_
    refine g_icmp_eq C 583 dL_law_578 (by decide) (by omega) (by omega) (by omega) (by omega) (fun c_578 => ?_) (fun c_578 => by exfalso; omega)
    refine g_iload C dL_law_583 1 rfl ?_
    refine g_if_ne C 600 dL_law_585 (by decide) (by omega) (by omega) (fun h9 => absurd rfl h9) (fun _ => ?_)
    refine g_aload_n C dL_law_588 3 rfl ?_
    refine g_iconst C dL_law_589 ?_
    refine g_laldZ C 0 0 rfl (by omega) (by omega) (by decide) dL_law_590 ?_
    refine g_ltop (zL a) (congrArg zL cset_eq) ?_
    refine g_iload C dL_law_591 0 rfl ?_
    refine g_i2l C dL_law_593 (by omega) (by omega) ?_
    refine g_lcmp_eq C 600 dL_law_594 dL_law_595 (by decide) (by omega) (by omega) (by omega) (by omega) (fun c_594 => ?_) (fun c_594 => by exfalso; omega)
    refine g_goto C 921 dL_law_600 (by decide) ?_
    refine g_lsub C [2, 3, 4, 5, 6] rfl ?_
    refine g_wide C (ce2 := 168 + 2 * j + 2) (so2 := 4549 + 12 * j + 12) (by omega) (by omega) ?_
    exact next 0 (cset f 0 a) _ _ hB3
  · refine g_perm C (pm2 _ _ _) ?_
    have hk2 : k = 1 ∨ k = 2 := by rcases List.mem_cons.mp hk with h9 | h9; exact Or.inl (Prod.mk.inj h9).2; cases h9
    refine g_istore C [(5, .int (zI k)), (4, .int (zI ((5 * j : Nat) : Int))), (3, .ref h), (2, .ref (m 0)), (1, .ref (c 0)), (0, .ref b)] dL_law_558 (by decide) rfl ?_
    refine g_aload_n C dL_law_560 3 rfl ?_
    refine g_aload_n C dL_law_561 5 rfl ?_
    refine g_iload C dL_law_562 1 rfl ?_
    refine g_iconst C dL_law_564 ?_
    refine g_iadd C dL_law_565 ?_
    refine g_sld CL (5 * j + 1) (by omega) (by omega) hL dL_law_566 ?_
    refine g_callVip (n := 1) (wr := oc E h f :: wc2) (post := R8_answer E m (p8 1) (p8 2) ((xs (5 * j + 1)).toInt)) C (c_X8_answer E l m kc le p8 d8 t8 rw8 hp8 ((xs (5 * j + 1)).toInt) (zI_rng _).1 (zI_rng _).2) gL_law_X8_answer rfl (by decide +kernel) rfl ⟨⟨rfl, rfl⟩, by decide, show (168 + 2 * j + 2) + 0 ≤ 601024 by omega, show (4549 + 12 * j + 12) + 0 ≤ 7293033 by omega⟩ dL_law_567 rfl (Nat.le_of_ble_eq_true rfl) rfl rfl (List.Perm.refl _) (fun r_2 w_2 h_2 => ?_)
    rw [e1, e2] at h_2
    have hB3 := nX_answer hX hk h_2
    obtain ⟨z, z1, z2, rfl⟩ : ∃ z : Int, -2147483648 ≤ z ∧ z < 2147483648 ∧ r_2 = zI z := ⟨r_2.toInt, (zI_rng r_2).1, (zI_rng r_2).2, (zI_of r_2).symm⟩
    refine g_istore C [(6, .int (zI z)), (5, .int (zI k)), (4, .int (zI ((5 * j : Nat) : Int))), (3, .ref h), (2, .ref (m 0)), (1, .ref (c 0)), (0, .ref b)] dL_law_570 (by decide) rfl ?_
    refine g_aload_n C dL_law_572 4 rfl ?_
    obtain ⟨A2, B2, hC2, le2, p9, d9, t9, rw9, hp9, f1, f2, rfl⟩ := hB3
    have hB3 : Both E c F pr m k wc2 (rmX E m k le2 p9 d9 t9 rw9) := ⟨A2, B2, hC2, le2, p9, d9, t9, rw9, hp9, f1, f2, rfl⟩
    refine g_callVip (n := 0) (wr := oc E h f :: wc2) C (c_X8_thrown E l m k le2 p9 d9 t9 rw9 hp9) gL_law_X8_thrown rfl (by decide +kernel) rfl ⟨⟨rfl, rfl⟩, by decide, show (168 + 2 * j + 2) + 0 + 0 ≤ 601024 by omega, show (4549 + 12 * j + 12) + 0 + 0 ≤ 7293033 by omega⟩ dL_law_573 rfl (Nat.le_of_ble_eq_true rfl) rfl rfl (List.Perm.refl _) (fun r_3 w_3 h_3 => ?_)
    obtain ⟨rfl, rfl⟩ := h_3
    refine g_iload C dL_law_576 1 rfl ?_
    refine g_icmp_eq C 583 dL_law_578 (by decide) (by omega) (by omega) (by omega) (by omega) (fun c_578 => ?_) (fun c_578 => by exfalso; omega)
    refine g_iload C dL_law_583 1 rfl ?_
    refine g_if_ne C 600 dL_law_585 (by decide) (by omega) (by omega) (fun _ => ?_) (fun h9 => by exfalso; omega)
    refine g_goto C 921 dL_law_600 (by decide) ?_
    refine g_lsub C [2, 3, 4, 5, 6] rfl ?_
    refine g_wide C (ce2 := 168 + 2 * j + 2) (so2 := 4549 + 12 * j + 12) (by omega) (by omega) ?_
    exact next k f _ _ hB3
set_option maxHeartbeats 4000000 in
theorem lw_closed {G : Gt} {E : ev} {l : Launch} {nx : String} {b L : Nat} {xs : Nat → Int32} (CL : OkL G E l nx b L xs) (hl : l.stackTraces = false) (hL : L ≤ 2560) {c : Nat → Nat} {F : Nat → Nat × Nat × Nat × Nat × Nat} {pr : Nat → Option Nat} (hpr : ∀ j : Nat, j < 21 → pr j = some (F j).1) {m : Nat → Nat} {h : Nat} {f : Nat → Int} {kc : Int} {wc wm : va_W} (hB : Both E c F pr m kc wc wm) (j : Nat) (hj : 5 * j + 5 ≤ L)
    (next : ∀ (kc2 : Int) (f2 : Nat → Int) (wc2 wm2 : va_W), Both E c F pr m kc2 wc2 wm2 → G (168 + 2 * j + 2) (4549 + 12 * j + 12) (oc E h f2 :: (wc2 ++ wm2)) [(4, .int (zI ((5 * j : Nat) : Int))), (3, .ref h), (2, .ref (m 0)), (1, .ref (c 0)), (0, .ref b)] 921 []) : G (168 + 2 * j) (4549 + 12 * j) (oc E h f :: (wc ++ wm)) [(4, .int (zI ((5 * j : Nat) : Int))), (3, .ref h), (2, .ref (m 0)), (1, .ref (c 0)), (0, .ref b)] 603 [] := by
  have C := CL.ok
  obtain ⟨A, B, ⟨p, n, d, bh, o, i, hC, rfl, rfl, hperm⟩, le, p8, d8, t8, rw8, hp8, e1, e2, rfl⟩ := hB
  refine g_aload_n C dL_law_603 3 rfl ?_
  refine g_aload_n C dL_law_604 4 rfl ?_
  refine g_iload C dL_law_605 0 rfl ?_
  refine g_iconst C dL_law_607 ?_
  refine g_iadd C dL_law_608 ?_
  refine g_sld CL (5 * j + 1) (by omega) (by omega) hL dL_law_609 ?_
  refine g_if_eq C 617 dL_law_610 (by decide) (zI_rng _).1 (zI_rng _).2 (fun c_0 => ?_) (fun c_0 => ?_)
  · refine g_iconst C dL_law_617 ?_
    refine g_aload_n C dL_law_618 4 rfl ?_
    refine g_iload C dL_law_619 0 rfl ?_
    refine g_iconst C dL_law_621 ?_
    refine g_iadd C dL_law_622 ?_
    refine g_sld CL (5 * j + 2) (by omega) (by omega) hL dL_law_623 ?_
    refine g_aload_n C dL_law_624 1 rfl ?_
    refine g_callL (n := 4) (wr := rmX E m kc le p8 d8 t8 rw8) CL.t (c_L_closed E l hl c F pr p n d bh o i hpr hC 0 (by omega) (by omega) ((xs (5 * j + 2)).toInt) (zI_rng _).1 (zI_rng _).2 h f) gL_law_L_closed rfl (by decide +kernel) rfl ⟨⟨rfl, rfl⟩, by decide, show 168 + 2 * j + 2 ≤ 601024 by omega, show 4549 + 12 * j + 12 ≤ 7293033 by omega⟩ dL_law_625 rfl (Nat.le_of_ble_eq_true rfl) (pm1 hperm) (fun r_1 w_1 h_1 => ?_)
    rcases h_1 with ⟨a, wc2, ⟨a1, a2⟩, hN, rfl, rfl⟩ | ⟨Ex, k, wc2, hk, hX, rfl, rfl⟩
    · refine g_perm C (pm2 _ _ _) ?_
      refine g_istore C [(5, .int (zI 0)), (4, .int (zI ((5 * j : Nat) : Int))), (3, .ref h), (2, .ref (m 0)), (1, .ref (c 0)), (0, .ref b)] dL_law_628 (by decide) rfl ?_
      refine g_aload_n C dL_law_630 3 rfl ?_
      refine g_aload_n C dL_law_631 5 rfl ?_
      refine g_iload C dL_law_632 1 rfl ?_
      refine g_iconst C dL_law_634 ?_
      refine g_iadd C dL_law_635 ?_
      refine g_sld CL (5 * j + 1) (by omega) (by omega) hL dL_law_636 ?_
      refine g_if_eq C 644 dL_law_637 (by decide) (zI_rng _).1 (zI_rng _).2 (fun _ => ?_) (fun h9 => absurd c_0 h9)
      refine g_iconst C dL_law_644 ?_
      refine g_aload_n C dL_law_645 5 rfl ?_
      refine g_iload C dL_law_646 1 rfl ?_
      refine g_iconst C dL_law_648 ?_
      refine g_iadd C dL_law_649 ?_
      refine g_sld CL (5 * j + 2) (by omega) (by omega) hL dL_law_650 ?_
      refine g_callVip (n := 2) (wr := oc E h (cset f 0 a) :: wc2) (post := R8_closed E m (p8 1) (p8 2) 0 ((xs (5 * j + 2)).toInt)) C (c_X8_closed E l m kc le p8 d8 t8 rw8 hp8 0 (by omega) (by omega) ((xs (5 * j + 2)).toInt) (zI_rng _).1 (zI_rng _).2) gL_law_X8_closed rfl (by decide +kernel) rfl ⟨⟨rfl, rfl⟩, by decide, show (168 + 2 * j + 2) + 0 ≤ 601024 by omega, show (4549 + 12 * j + 12) + 0 ≤ 7293033 by omega⟩ dL_law_651 rfl (Nat.le_of_ble_eq_true rfl) rfl rfl (List.Perm.refl _) (fun r_2 w_2 h_2 => ?_)
      rw [e1, e2] at h_2
      obtain ⟨rfl, hB3⟩ := nN_closed hN h_2
      refine g_istore C [(6, .int (zI a)), (5, .int (zI 0)), (4, .int (zI ((5 * j : Nat) : Int))), (3, .ref h), (2, .ref (m 0)), (1, .ref (c 0)), (0, .ref b)] dL_law_654 (by decide) rfl ?_
      refine g_aload_n C dL_law_656 4 rfl ?_
      obtain ⟨A2, B2, hC2, le2, p9, d9, t9, rw9, hp9, f1, f2, rfl⟩ := hB3
      have hB3 : Both E c F pr m 0 wc2 (rmX E m 0 le2 p9 d9 t9 rw9) := ⟨A2, B2, hC2, le2, p9, d9, t9, rw9, hp9, f1, f2, rfl⟩
      refine g_callVip (n := 0) (wr := oc E h (cset f 0 a) :: wc2) C (c_X8_thrown E l m 0 le2 p9 d9 t9 rw9 hp9) gL_law_X8_thrown rfl (by decide +kernel) rfl ⟨⟨rfl, rfl⟩, by decide, show (168 + 2 * j + 2) + 0 + 0 ≤ 601024 by omega, show (4549 + 12 * j + 12) + 0 + 0 ≤ 7293033 by omega⟩ dL_law_657 rfl (Nat.le_of_ble_eq_true rfl) rfl rfl (List.Perm.refl _) (fun r_3 w_3 h_3 => ?_)
      obtain ⟨rfl, rfl⟩ := h_3
      refine g_iload C dL_law_660 1 rfl ?_
      refine g_icmp_eq C 667 dL_law_662 (by decide) (by omega) (by omega) (by omega) (by omega) (fun c_662 => ?_) (fun c_662 => by exfalso; omega)
      refine g_iload C dL_law_667 1 rfl ?_
      refine g_if_ne C 684 dL_law_669 (by decide) (by omega) (by omega) (fun h9 => absurd rfl h9) (fun _ => ?_)
      refine g_aload_n C dL_law_672 3 rfl ?_
      refine g_iconst C dL_law_673 ?_
      refine g_laldZ C 0 0 rfl (by omega) (by omega) (by decide) dL_law_674 ?_
      refine g_ltop (zL a) (congrArg zL cset_eq) ?_
      refine g_iload C dL_law_675 0 rfl ?_
      refine g_i2l C dL_law_677 (by omega) (by omega) ?_
      refine g_lcmp_eq C 684 dL_law_678 dL_law_679 (by decide) (by omega) (by omega) (by omega) (by omega) (fun c_678 => ?_) (fun c_678 => by exfalso; omega)
      refine g_goto C 921 dL_law_684 (by decide) ?_
      refine g_lsub C [2, 3, 4, 5, 6] rfl ?_
      refine g_wide C (ce2 := 168 + 2 * j + 2) (so2 := 4549 + 12 * j + 12) (by omega) (by omega) ?_
      exact next 0 (cset f 0 a) _ _ hB3
    · refine g_perm C (pm2 _ _ _) ?_
      have hk2 : k = 1 ∨ k = 2 := by rcases List.mem_cons.mp hk with h9 | h9; exact Or.inl (Prod.mk.inj h9).2; cases h9
      refine g_istore C [(5, .int (zI k)), (4, .int (zI ((5 * j : Nat) : Int))), (3, .ref h), (2, .ref (m 0)), (1, .ref (c 0)), (0, .ref b)] dL_law_628 (by decide) rfl ?_
      refine g_aload_n C dL_law_630 3 rfl ?_
      refine g_aload_n C dL_law_631 5 rfl ?_
      refine g_iload C dL_law_632 1 rfl ?_
      refine g_iconst C dL_law_634 ?_
      refine g_iadd C dL_law_635 ?_
      refine g_sld CL (5 * j + 1) (by omega) (by omega) hL dL_law_636 ?_
      refine g_if_eq C 644 dL_law_637 (by decide) (zI_rng _).1 (zI_rng _).2 (fun _ => ?_) (fun h9 => absurd c_0 h9)
      refine g_iconst C dL_law_644 ?_
      refine g_aload_n C dL_law_645 5 rfl ?_
      refine g_iload C dL_law_646 1 rfl ?_
      refine g_iconst C dL_law_648 ?_
      refine g_iadd C dL_law_649 ?_
      refine g_sld CL (5 * j + 2) (by omega) (by omega) hL dL_law_650 ?_
      refine g_callVip (n := 2) (wr := oc E h f :: wc2) (post := R8_closed E m (p8 1) (p8 2) 0 ((xs (5 * j + 2)).toInt)) C (c_X8_closed E l m kc le p8 d8 t8 rw8 hp8 0 (by omega) (by omega) ((xs (5 * j + 2)).toInt) (zI_rng _).1 (zI_rng _).2) gL_law_X8_closed rfl (by decide +kernel) rfl ⟨⟨rfl, rfl⟩, by decide, show (168 + 2 * j + 2) + 0 ≤ 601024 by omega, show (4549 + 12 * j + 12) + 0 ≤ 7293033 by omega⟩ dL_law_651 rfl (Nat.le_of_ble_eq_true rfl) rfl rfl (List.Perm.refl _) (fun r_2 w_2 h_2 => ?_)
      rw [e1, e2] at h_2
      have hB3 := nX_closed hX hk h_2
      obtain ⟨z, z1, z2, rfl⟩ : ∃ z : Int, -2147483648 ≤ z ∧ z < 2147483648 ∧ r_2 = zI z := ⟨r_2.toInt, (zI_rng r_2).1, (zI_rng r_2).2, (zI_of r_2).symm⟩
      refine g_istore C [(6, .int (zI z)), (5, .int (zI k)), (4, .int (zI ((5 * j : Nat) : Int))), (3, .ref h), (2, .ref (m 0)), (1, .ref (c 0)), (0, .ref b)] dL_law_654 (by decide) rfl ?_
      refine g_aload_n C dL_law_656 4 rfl ?_
      obtain ⟨A2, B2, hC2, le2, p9, d9, t9, rw9, hp9, f1, f2, rfl⟩ := hB3
      have hB3 : Both E c F pr m k wc2 (rmX E m k le2 p9 d9 t9 rw9) := ⟨A2, B2, hC2, le2, p9, d9, t9, rw9, hp9, f1, f2, rfl⟩
      refine g_callVip (n := 0) (wr := oc E h f :: wc2) C (c_X8_thrown E l m k le2 p9 d9 t9 rw9 hp9) gL_law_X8_thrown rfl (by decide +kernel) rfl ⟨⟨rfl, rfl⟩, by decide, show (168 + 2 * j + 2) + 0 + 0 ≤ 601024 by omega, show (4549 + 12 * j + 12) + 0 + 0 ≤ 7293033 by omega⟩ dL_law_657 rfl (Nat.le_of_ble_eq_true rfl) rfl rfl (List.Perm.refl _) (fun r_3 w_3 h_3 => ?_)
      obtain ⟨rfl, rfl⟩ := h_3
      refine g_iload C dL_law_660 1 rfl ?_
      refine g_icmp_eq C 667 dL_law_662 (by decide) (by omega) (by omega) (by omega) (by omega) (fun c_662 => ?_) (fun c_662 => by exfalso; omega)
      refine g_iload C dL_law_667 1 rfl ?_
      refine g_if_ne C 684 dL_law_669 (by decide) (by omega) (by omega) (fun _ => ?_) (fun h9 => by exfalso; omega)
      refine g_goto C 921 dL_law_684 (by decide) ?_
      refine g_lsub C [2, 3, 4, 5, 6] rfl ?_
      refine g_wide C (ce2 := 168 + 2 * j + 2) (so2 := 4549 + 12 * j + 12) (by omega) (by omega) ?_
      exact next k f _ _ hB3
  · refine g_iconst C dL_law_613 ?_
    refine g_goto C 618 dL_law_614 (by decide) ?_
    refine g_aload_n C dL_law_618 4 rfl ?_
    refine g_iload C dL_law_619 0 rfl ?_
    refine g_iconst C dL_law_621 ?_
    refine g_iadd C dL_law_622 ?_
    refine g_sld CL (5 * j + 2) (by omega) (by omega) hL dL_law_623 ?_
    refine g_aload_n C dL_law_624 1 rfl ?_
    refine g_callL (n := 4) (wr := rmX E m kc le p8 d8 t8 rw8) CL.t (c_L_closed E l hl c F pr p n d bh o i hpr hC 1 (by omega) (by omega) ((xs (5 * j + 2)).toInt) (zI_rng _).1 (zI_rng _).2 h f) gL_law_L_closed rfl (by decide +kernel) rfl ⟨⟨rfl, rfl⟩, by decide, show 168 + 2 * j + 2 ≤ 601024 by omega, show 4549 + 12 * j + 12 ≤ 7293033 by omega⟩ dL_law_625 rfl (Nat.le_of_ble_eq_true rfl) (pm1 hperm) (fun r_1 w_1 h_1 => ?_)
    rcases h_1 with ⟨a, wc2, ⟨a1, a2⟩, hN, rfl, rfl⟩ | ⟨Ex, k, wc2, hk, hX, rfl, rfl⟩
    · refine g_perm C (pm2 _ _ _) ?_
      refine g_istore C [(5, .int (zI 0)), (4, .int (zI ((5 * j : Nat) : Int))), (3, .ref h), (2, .ref (m 0)), (1, .ref (c 0)), (0, .ref b)] dL_law_628 (by decide) rfl ?_
      refine g_aload_n C dL_law_630 3 rfl ?_
      refine g_aload_n C dL_law_631 5 rfl ?_
      refine g_iload C dL_law_632 1 rfl ?_
      refine g_iconst C dL_law_634 ?_
      refine g_iadd C dL_law_635 ?_
      refine g_sld CL (5 * j + 1) (by omega) (by omega) hL dL_law_636 ?_
      refine g_if_eq C 644 dL_law_637 (by decide) (zI_rng _).1 (zI_rng _).2 (fun h9 => absurd h9 c_0) (fun _ => ?_)
      refine g_iconst C dL_law_640 ?_
      refine g_goto C 645 dL_law_641 (by decide) ?_
      refine g_aload_n C dL_law_645 5 rfl ?_
      refine g_iload C dL_law_646 1 rfl ?_
      refine g_iconst C dL_law_648 ?_
      refine g_iadd C dL_law_649 ?_
      refine g_sld CL (5 * j + 2) (by omega) (by omega) hL dL_law_650 ?_
      refine g_callVip (n := 2) (wr := oc E h (cset f 0 a) :: wc2) (post := R8_closed E m (p8 1) (p8 2) 1 ((xs (5 * j + 2)).toInt)) C (c_X8_closed E l m kc le p8 d8 t8 rw8 hp8 1 (by omega) (by omega) ((xs (5 * j + 2)).toInt) (zI_rng _).1 (zI_rng _).2) gL_law_X8_closed rfl (by decide +kernel) rfl ⟨⟨rfl, rfl⟩, by decide, show (168 + 2 * j + 2) + 0 ≤ 601024 by omega, show (4549 + 12 * j + 12) + 0 ≤ 7293033 by omega⟩ dL_law_651 rfl (Nat.le_of_ble_eq_true rfl) rfl rfl (List.Perm.refl _) (fun r_2 w_2 h_2 => ?_)
      rw [e1, e2] at h_2
      obtain ⟨rfl, hB3⟩ := nN_closed hN h_2
      refine g_istore C [(6, .int (zI a)), (5, .int (zI 0)), (4, .int (zI ((5 * j : Nat) : Int))), (3, .ref h), (2, .ref (m 0)), (1, .ref (c 0)), (0, .ref b)] dL_law_654 (by decide) rfl ?_
      refine g_aload_n C dL_law_656 4 rfl ?_
      obtain ⟨A2, B2, hC2, le2, p9, d9, t9, rw9, hp9, f1, f2, rfl⟩ := hB3
      have hB3 : Both E c F pr m 0 wc2 (rmX E m 0 le2 p9 d9 t9 rw9) := ⟨A2, B2, hC2, le2, p9, d9, t9, rw9, hp9, f1, f2, rfl⟩
      refine g_callVip (n := 0) (wr := oc E h (cset f 0 a) :: wc2) C (c_X8_thrown E l m 0 le2 p9 d9 t9 rw9 hp9) gL_law_X8_thrown rfl (by decide +kernel) rfl ⟨⟨rfl, rfl⟩, by decide, show (168 + 2 * j + 2) + 0 + 0 ≤ 601024 by omega, show (4549 + 12 * j + 12) + 0 + 0 ≤ 7293033 by omega⟩ dL_law_657 rfl (Nat.le_of_ble_eq_true rfl) rfl rfl (List.Perm.refl _) (fun r_3 w_3 h_3 => ?_)
      obtain ⟨rfl, rfl⟩ := h_3
      refine g_iload C dL_law_660 1 rfl ?_
      refine g_icmp_eq C 667 dL_law_662 (by decide) (by omega) (by omega) (by omega) (by omega) (fun c_662 => ?_) (fun c_662 => by exfalso; omega)
      refine g_iload C dL_law_667 1 rfl ?_
      refine g_if_ne C 684 dL_law_669 (by decide) (by omega) (by omega) (fun h9 => absurd rfl h9) (fun _ => ?_)
      refine g_aload_n C dL_law_672 3 rfl ?_
      refine g_iconst C dL_law_673 ?_
      refine g_laldZ C 0 0 rfl (by omega) (by omega) (by decide) dL_law_674 ?_
      refine g_ltop (zL a) (congrArg zL cset_eq) ?_
      refine g_iload C dL_law_675 0 rfl ?_
      refine g_i2l C dL_law_677 (by omega) (by omega) ?_
      refine g_lcmp_eq C 684 dL_law_678 dL_law_679 (by decide) (by omega) (by omega) (by omega) (by omega) (fun c_678 => ?_) (fun c_678 => by exfalso; omega)
      refine g_goto C 921 dL_law_684 (by decide) ?_
      refine g_lsub C [2, 3, 4, 5, 6] rfl ?_
      refine g_wide C (ce2 := 168 + 2 * j + 2) (so2 := 4549 + 12 * j + 12) (by omega) (by omega) ?_
      exact next 0 (cset f 0 a) _ _ hB3
    · refine g_perm C (pm2 _ _ _) ?_
      have hk2 : k = 1 ∨ k = 2 := by rcases List.mem_cons.mp hk with h9 | h9; exact Or.inl (Prod.mk.inj h9).2; cases h9
      refine g_istore C [(5, .int (zI k)), (4, .int (zI ((5 * j : Nat) : Int))), (3, .ref h), (2, .ref (m 0)), (1, .ref (c 0)), (0, .ref b)] dL_law_628 (by decide) rfl ?_
      refine g_aload_n C dL_law_630 3 rfl ?_
      refine g_aload_n C dL_law_631 5 rfl ?_
      refine g_iload C dL_law_632 1 rfl ?_
      refine g_iconst C dL_law_634 ?_
      refine g_iadd C dL_law_635 ?_
      refine g_sld CL (5 * j + 1) (by omega) (by omega) hL dL_law_636 ?_
      refine g_if_eq C 644 dL_law_637 (by decide) (zI_rng _).1 (zI_rng _).2 (fun h9 => absurd h9 c_0) (fun _ => ?_)
      refine g_iconst C dL_law_640 ?_
      refine g_goto C 645 dL_law_641 (by decide) ?_
      refine g_aload_n C dL_law_645 5 rfl ?_
      refine g_iload C dL_law_646 1 rfl ?_
      refine g_iconst C dL_law_648 ?_
      refine g_iadd C dL_law_649 ?_
      refine g_sld CL (5 * j + 2) (by omega) (by omega) hL dL_law_650 ?_
      refine g_callVip (n := 2) (wr := oc E h f :: wc2) (post := R8_closed E m (p8 1) (p8 2) 1 ((xs (5 * j + 2)).toInt)) C (c_X8_closed E l m kc le p8 d8 t8 rw8 hp8 1 (by omega) (by omega) ((xs (5 * j + 2)).toInt) (zI_rng _).1 (zI_rng _).2) gL_law_X8_closed rfl (by decide +kernel) rfl ⟨⟨rfl, rfl⟩, by decide, show (168 + 2 * j + 2) + 0 ≤ 601024 by omega, show (4549 + 12 * j + 12) + 0 ≤ 7293033 by omega⟩ dL_law_651 rfl (Nat.le_of_ble_eq_true rfl) rfl rfl (List.Perm.refl _) (fun r_2 w_2 h_2 => ?_)
      rw [e1, e2] at h_2
      have hB3 := nX_closed hX hk h_2
      obtain ⟨z, z1, z2, rfl⟩ : ∃ z : Int, -2147483648 ≤ z ∧ z < 2147483648 ∧ r_2 = zI z := ⟨r_2.toInt, (zI_rng r_2).1, (zI_rng r_2).2, (zI_of r_2).symm⟩
      refine g_istore C [(6, .int (zI z)), (5, .int (zI k)), (4, .int (zI ((5 * j : Nat) : Int))), (3, .ref h), (2, .ref (m 0)), (1, .ref (c 0)), (0, .ref b)] dL_law_654 (by decide) rfl ?_
      refine g_aload_n C dL_law_656 4 rfl ?_
      obtain ⟨A2, B2, hC2, le2, p9, d9, t9, rw9, hp9, f1, f2, rfl⟩ := hB3
      have hB3 : Both E c F pr m k wc2 (rmX E m k le2 p9 d9 t9 rw9) := ⟨A2, B2, hC2, le2, p9, d9, t9, rw9, hp9, f1, f2, rfl⟩
      refine g_callVip (n := 0) (wr := oc E h f :: wc2) C (c_X8_thrown E l m k le2 p9 d9 t9 rw9 hp9) gL_law_X8_thrown rfl (by decide +kernel) rfl ⟨⟨rfl, rfl⟩, by decide, show (168 + 2 * j + 2) + 0 + 0 ≤ 601024 by omega, show (4549 + 12 * j + 12) + 0 + 0 ≤ 7293033 by omega⟩ dL_law_657 rfl (Nat.le_of_ble_eq_true rfl) rfl rfl (List.Perm.refl _) (fun r_3 w_3 h_3 => ?_)
      obtain ⟨rfl, rfl⟩ := h_3
      refine g_iload C dL_law_660 1 rfl ?_
      refine g_icmp_eq C 667 dL_law_662 (by decide) (by omega) (by omega) (by omega) (by omega) (fun c_662 => ?_) (fun c_662 => by exfalso; omega)
      refine g_iload C dL_law_667 1 rfl ?_
      refine g_if_ne C 684 dL_law_669 (by decide) (by omega) (by omega) (fun _ => ?_) (fun h9 => by exfalso; omega)
      refine g_goto C 921 dL_law_684 (by decide) ?_
      refine g_lsub C [2, 3, 4, 5, 6] rfl ?_
      refine g_wide C (ce2 := 168 + 2 * j + 2) (so2 := 4549 + 12 * j + 12) (by omega) (by omega) ?_
      exact next k f _ _ hB3
set_option maxHeartbeats 4000000 in
theorem lw_value {G : Gt} {E : ev} {l : Launch} {nx : String} {b L : Nat} {xs : Nat → Int32} (CL : OkL G E l nx b L xs) (hl : l.stackTraces = false) (hL : L ≤ 2560) {c : Nat → Nat} {F : Nat → Nat × Nat × Nat × Nat × Nat} {pr : Nat → Option Nat} (hpr : ∀ j : Nat, j < 21 → pr j = some (F j).1) {m : Nat → Nat} {h : Nat} {f : Nat → Int} {kc : Int} {wc wm : va_W} (hB : Both E c F pr m kc wc wm) (j : Nat) (hj : 5 * j + 5 ≤ L)
    (next : ∀ (kc2 : Int) (f2 : Nat → Int) (wc2 wm2 : va_W), Both E c F pr m kc2 wc2 wm2 → G (168 + 2 * j + 2) (4549 + 12 * j + 12) (oc E h f2 :: (wc2 ++ wm2)) [(4, .int (zI ((5 * j : Nat) : Int))), (3, .ref h), (2, .ref (m 0)), (1, .ref (c 0)), (0, .ref b)] 921 []) : G (168 + 2 * j) (4549 + 12 * j) (oc E h f :: (wc ++ wm)) [(4, .int (zI ((5 * j : Nat) : Int))), (3, .ref h), (2, .ref (m 0)), (1, .ref (c 0)), (0, .ref b)] 687 [] := by
  have C := CL.ok
  obtain ⟨A, B, ⟨p, n, d, bh, o, i, hC, rfl, rfl, hperm⟩, le, p8, d8, t8, rw8, hp8, e1, e2, rfl⟩ := hB
  refine g_aload_n C dL_law_687 3 rfl ?_
  refine g_aload_n C dL_law_688 4 rfl ?_
  refine g_iload C dL_law_689 0 rfl ?_
  refine g_iconst C dL_law_691 ?_
  refine g_iadd C dL_law_692 ?_
  refine g_sld CL (5 * j + 1) (by omega) (by omega) hL dL_law_693 ?_
  refine g_i2l C dL_law_694 (zI_rng _).1 (zI_rng _).2 ?_
  refine g_bipush C dL_law_695 rfl ?_
  refine g_lshl C dL_law_697 ?_
  refine g_aload_n C dL_law_698 4 rfl ?_
  refine g_iload C dL_law_699 0 rfl ?_
  refine g_iconst C dL_law_701 ?_
  refine g_iadd C dL_law_702 ?_
  refine g_sld CL (5 * j + 2) (by omega) (by omega) hL dL_law_703 ?_
  refine g_i2l C dL_law_704 (zI_rng _).1 (zI_rng _).2 ?_
  refine g_ldc2 C 4294967295 lk_law_m dL_law_705 ?_
  refine g_land C dL_law_708 ?_
  refine g_lor C dL_law_709 ?_
  refine g_ltop (zL (two ((xs (5 * j + 1)).toInt) ((xs (5 * j + 2)).toInt))) (two_eq _ _) ?_
  refine g_aload_n C dL_law_710 1 rfl ?_
  refine g_callL (n := 3) (wr := rmX E m kc le p8 d8 t8 rw8) CL.t (c_L_value E l hl c F pr p n d bh o i hpr hC (two ((xs (5 * j + 1)).toInt) ((xs (5 * j + 2)).toInt)) (two_rng _ _).1 (two_rng _ _).2 h f) gL_law_L_value rfl (by decide +kernel) rfl ⟨⟨rfl, rfl⟩, by decide, show 168 + 2 * j + 2 ≤ 601024 by omega, show 4549 + 12 * j + 12 ≤ 7293033 by omega⟩ dL_law_711 rfl (Nat.le_of_ble_eq_true rfl) (pm1 hperm) (fun r_1 w_1 h_1 => ?_)
  rcases h_1 with ⟨a, wc2, ⟨a1, a2⟩, hN, rfl, rfl⟩ | ⟨Ex, k, wc2, hk, hX, rfl, rfl⟩
  · refine g_perm C (pm2 _ _ _) ?_
    refine g_istore C [(5, .int (zI 0)), (4, .int (zI ((5 * j : Nat) : Int))), (3, .ref h), (2, .ref (m 0)), (1, .ref (c 0)), (0, .ref b)] dL_law_714 (by decide) rfl ?_
    refine g_aload_n C dL_law_716 3 rfl ?_
    refine g_aload_n C dL_law_717 5 rfl ?_
    refine g_iload C dL_law_718 1 rfl ?_
    refine g_iconst C dL_law_720 ?_
    refine g_iadd C dL_law_721 ?_
    refine g_sld CL (5 * j + 1) (by omega) (by omega) hL dL_law_722 ?_
    refine g_i2l C dL_law_723 (zI_rng _).1 (zI_rng _).2 ?_
    refine g_bipush C dL_law_724 rfl ?_
    refine g_lshl C dL_law_726 ?_
    refine g_aload_n C dL_law_727 5 rfl ?_
    refine g_iload C dL_law_728 1 rfl ?_
    refine g_iconst C dL_law_730 ?_
    refine g_iadd C dL_law_731 ?_
    refine g_sld CL (5 * j + 2) (by omega) (by omega) hL dL_law_732 ?_
    refine g_i2l C dL_law_733 (zI_rng _).1 (zI_rng _).2 ?_
    refine g_ldc2 C 4294967295 lk_law_m dL_law_734 ?_
    refine g_land C dL_law_737 ?_
    refine g_lor C dL_law_738 ?_
    refine g_ltop (zL (two ((xs (5 * j + 1)).toInt) ((xs (5 * j + 2)).toInt))) (two_eq _ _) ?_
    refine g_callVip (n := 1) (wr := oc E h (cset f 0 a) :: wc2) (post := R8_value E m (p8 1) (p8 2) (two ((xs (5 * j + 1)).toInt) ((xs (5 * j + 2)).toInt))) C (c_X8_value E l m kc le p8 d8 t8 rw8 hp8 (two ((xs (5 * j + 1)).toInt) ((xs (5 * j + 2)).toInt)) (two_rng _ _).1 (two_rng _ _).2) gL_law_X8_value rfl (by decide +kernel) rfl ⟨⟨rfl, rfl⟩, by decide, show (168 + 2 * j + 2) + 0 ≤ 601024 by omega, show (4549 + 12 * j + 12) + 0 ≤ 7293033 by omega⟩ dL_law_739 rfl (Nat.le_of_ble_eq_true rfl) rfl rfl (List.Perm.refl _) (fun r_2 w_2 h_2 => ?_)
    rw [e1, e2] at h_2
    obtain ⟨rfl, hB3⟩ := nN_value hN h_2
    refine g_istore C [(6, .int (zI a)), (5, .int (zI 0)), (4, .int (zI ((5 * j : Nat) : Int))), (3, .ref h), (2, .ref (m 0)), (1, .ref (c 0)), (0, .ref b)] dL_law_742 (by decide) rfl ?_
    refine g_aload_n C dL_law_744 4 rfl ?_
    obtain ⟨A2, B2, hC2, le2, p9, d9, t9, rw9, hp9, f1, f2, rfl⟩ := hB3
    have hB3 : Both E c F pr m 0 wc2 (rmX E m 0 le2 p9 d9 t9 rw9) := ⟨A2, B2, hC2, le2, p9, d9, t9, rw9, hp9, f1, f2, rfl⟩
    refine g_callVip (n := 0) (wr := oc E h (cset f 0 a) :: wc2) C (c_X8_thrown E l m 0 le2 p9 d9 t9 rw9 hp9) gL_law_X8_thrown rfl (by decide +kernel) rfl ⟨⟨rfl, rfl⟩, by decide, show (168 + 2 * j + 2) + 0 + 0 ≤ 601024 by omega, show (4549 + 12 * j + 12) + 0 + 0 ≤ 7293033 by omega⟩ dL_law_745 rfl (Nat.le_of_ble_eq_true rfl) rfl rfl (List.Perm.refl _) (fun r_3 w_3 h_3 => ?_)
    obtain ⟨rfl, rfl⟩ := h_3
    refine g_iload C dL_law_748 1 rfl ?_
    refine g_icmp_eq C 755 dL_law_750 (by decide) (by omega) (by omega) (by omega) (by omega) (fun c_750 => ?_) (fun c_750 => by exfalso; omega)
    refine g_iload C dL_law_755 1 rfl ?_
    refine g_if_ne C 772 dL_law_757 (by decide) (by omega) (by omega) (fun h9 => absurd rfl h9) (fun _ => ?_)
    refine g_aload_n C dL_law_760 3 rfl ?_
    refine g_iconst C dL_law_761 ?_
    refine g_laldZ C 0 0 rfl (by omega) (by omega) (by decide) dL_law_762 ?_
    refine g_ltop (zL a) (congrArg zL cset_eq) ?_
    refine g_iload C dL_law_763 0 rfl ?_
    refine g_i2l C dL_law_765 (by omega) (by omega) ?_
    refine g_lcmp_eq C 772 dL_law_766 dL_law_767 (by decide) (by omega) (by omega) (by omega) (by omega) (fun c_766 => ?_) (fun c_766 => by exfalso; omega)
    refine g_goto C 921 dL_law_772 (by decide) ?_
    refine g_lsub C [2, 3, 4, 5, 6] rfl ?_
    refine g_wide C (ce2 := 168 + 2 * j + 2) (so2 := 4549 + 12 * j + 12) (by omega) (by omega) ?_
    exact next 0 (cset f 0 a) _ _ hB3
  · refine g_perm C (pm2 _ _ _) ?_
    have hk2 : k = 1 ∨ k = 2 := by rcases List.mem_cons.mp hk with h9 | h9; exact Or.inl (Prod.mk.inj h9).2; cases h9
    refine g_istore C [(5, .int (zI k)), (4, .int (zI ((5 * j : Nat) : Int))), (3, .ref h), (2, .ref (m 0)), (1, .ref (c 0)), (0, .ref b)] dL_law_714 (by decide) rfl ?_
    refine g_aload_n C dL_law_716 3 rfl ?_
    refine g_aload_n C dL_law_717 5 rfl ?_
    refine g_iload C dL_law_718 1 rfl ?_
    refine g_iconst C dL_law_720 ?_
    refine g_iadd C dL_law_721 ?_
    refine g_sld CL (5 * j + 1) (by omega) (by omega) hL dL_law_722 ?_
    refine g_i2l C dL_law_723 (zI_rng _).1 (zI_rng _).2 ?_
    refine g_bipush C dL_law_724 rfl ?_
    refine g_lshl C dL_law_726 ?_
    refine g_aload_n C dL_law_727 5 rfl ?_
    refine g_iload C dL_law_728 1 rfl ?_
    refine g_iconst C dL_law_730 ?_
    refine g_iadd C dL_law_731 ?_
    refine g_sld CL (5 * j + 2) (by omega) (by omega) hL dL_law_732 ?_
    refine g_i2l C dL_law_733 (zI_rng _).1 (zI_rng _).2 ?_
    refine g_ldc2 C 4294967295 lk_law_m dL_law_734 ?_
    refine g_land C dL_law_737 ?_
    refine g_lor C dL_law_738 ?_
    refine g_ltop (zL (two ((xs (5 * j + 1)).toInt) ((xs (5 * j + 2)).toInt))) (two_eq _ _) ?_
    refine g_callVip (n := 1) (wr := oc E h f :: wc2) (post := R8_value E m (p8 1) (p8 2) (two ((xs (5 * j + 1)).toInt) ((xs (5 * j + 2)).toInt))) C (c_X8_value E l m kc le p8 d8 t8 rw8 hp8 (two ((xs (5 * j + 1)).toInt) ((xs (5 * j + 2)).toInt)) (two_rng _ _).1 (two_rng _ _).2) gL_law_X8_value rfl (by decide +kernel) rfl ⟨⟨rfl, rfl⟩, by decide, show (168 + 2 * j + 2) + 0 ≤ 601024 by omega, show (4549 + 12 * j + 12) + 0 ≤ 7293033 by omega⟩ dL_law_739 rfl (Nat.le_of_ble_eq_true rfl) rfl rfl (List.Perm.refl _) (fun r_2 w_2 h_2 => ?_)
    rw [e1, e2] at h_2
    have hB3 := nX_value hX hk h_2
    obtain ⟨z, z1, z2, rfl⟩ : ∃ z : Int, -2147483648 ≤ z ∧ z < 2147483648 ∧ r_2 = zI z := ⟨r_2.toInt, (zI_rng r_2).1, (zI_rng r_2).2, (zI_of r_2).symm⟩
    refine g_istore C [(6, .int (zI z)), (5, .int (zI k)), (4, .int (zI ((5 * j : Nat) : Int))), (3, .ref h), (2, .ref (m 0)), (1, .ref (c 0)), (0, .ref b)] dL_law_742 (by decide) rfl ?_
    refine g_aload_n C dL_law_744 4 rfl ?_
    obtain ⟨A2, B2, hC2, le2, p9, d9, t9, rw9, hp9, f1, f2, rfl⟩ := hB3
    have hB3 : Both E c F pr m k wc2 (rmX E m k le2 p9 d9 t9 rw9) := ⟨A2, B2, hC2, le2, p9, d9, t9, rw9, hp9, f1, f2, rfl⟩
    refine g_callVip (n := 0) (wr := oc E h f :: wc2) C (c_X8_thrown E l m k le2 p9 d9 t9 rw9 hp9) gL_law_X8_thrown rfl (by decide +kernel) rfl ⟨⟨rfl, rfl⟩, by decide, show (168 + 2 * j + 2) + 0 + 0 ≤ 601024 by omega, show (4549 + 12 * j + 12) + 0 + 0 ≤ 7293033 by omega⟩ dL_law_745 rfl (Nat.le_of_ble_eq_true rfl) rfl rfl (List.Perm.refl _) (fun r_3 w_3 h_3 => ?_)
    obtain ⟨rfl, rfl⟩ := h_3
    refine g_iload C dL_law_748 1 rfl ?_
    refine g_icmp_eq C 755 dL_law_750 (by decide) (by omega) (by omega) (by omega) (by omega) (fun c_750 => ?_) (fun c_750 => by exfalso; omega)
    refine g_iload C dL_law_755 1 rfl ?_
    refine g_if_ne C 772 dL_law_757 (by decide) (by omega) (by omega) (fun _ => ?_) (fun h9 => by exfalso; omega)
    refine g_goto C 921 dL_law_772 (by decide) ?_
    refine g_lsub C [2, 3, 4, 5, 6] rfl ?_
    refine g_wide C (ce2 := 168 + 2 * j + 2) (so2 := 4549 + 12 * j + 12) (by omega) (by omega) ?_
    exact next k f _ _ hB3
set_option maxHeartbeats 4000000 in
theorem lw_term {G : Gt} {E : ev} {l : Launch} {nx : String} {b L : Nat} {xs : Nat → Int32} (CL : OkL G E l nx b L xs) (hl : l.stackTraces = false) (hL : L ≤ 2560) {c : Nat → Nat} {F : Nat → Nat × Nat × Nat × Nat × Nat} {pr : Nat → Option Nat} (hpr : ∀ j : Nat, j < 21 → pr j = some (F j).1) {m : Nat → Nat} {h : Nat} {f : Nat → Int} {kc : Int} {wc wm : va_W} (hB : Both E c F pr m kc wc wm) (j : Nat) (hj : 5 * j + 5 ≤ L)
    (next : ∀ (kc2 : Int) (f2 : Nat → Int) (wc2 wm2 : va_W), Both E c F pr m kc2 wc2 wm2 → G (168 + 2 * j + 2) (4549 + 12 * j + 12) (oc E h f2 :: (wc2 ++ wm2)) [(4, .int (zI ((5 * j : Nat) : Int))), (3, .ref h), (2, .ref (m 0)), (1, .ref (c 0)), (0, .ref b)] 921 []) : G (168 + 2 * j) (4549 + 12 * j) (oc E h f :: (wc ++ wm)) [(4, .int (zI ((5 * j : Nat) : Int))), (3, .ref h), (2, .ref (m 0)), (1, .ref (c 0)), (0, .ref b)] 775 [] := by
  have C := CL.ok
  obtain ⟨A, B, ⟨p, n, d, bh, o, i, hC, rfl, rfl, hperm⟩, le, p8, d8, t8, rw8, hp8, e1, e2, rfl⟩ := hB
  refine g_aload_n C dL_law_775 3 rfl ?_
  refine g_aload_n C dL_law_776 4 rfl ?_
  refine g_iload C dL_law_777 0 rfl ?_
  refine g_iconst C dL_law_779 ?_
  refine g_iadd C dL_law_780 ?_
  refine g_sld CL (5 * j + 1) (by omega) (by omega) hL dL_law_781 ?_
  refine g_aload_n C dL_law_782 1 rfl ?_
  refine g_callL (n := 3) (wr := rmX E m kc le p8 d8 t8 rw8) CL.t (c_L_term E l hl c F pr p n d bh o i hpr hC ((xs (5 * j + 1)).toInt) (zI_rng _).1 (zI_rng _).2 h f) gL_law_L_term rfl (by decide +kernel) rfl ⟨⟨rfl, rfl⟩, by decide, show 168 + 2 * j + 2 ≤ 601024 by omega, show 4549 + 12 * j + 12 ≤ 7293033 by omega⟩ dL_law_783 rfl (Nat.le_of_ble_eq_true rfl) (pm1 hperm) (fun r_1 w_1 h_1 => ?_)
  rcases h_1 with ⟨a, wc2, ⟨a1, a2⟩, hN, rfl, rfl⟩ | ⟨Ex, k, wc2, hk, hX, rfl, rfl⟩
  · refine g_perm C (pm2 _ _ _) ?_
    refine g_istore C [(5, .int (zI 0)), (4, .int (zI ((5 * j : Nat) : Int))), (3, .ref h), (2, .ref (m 0)), (1, .ref (c 0)), (0, .ref b)] dL_law_786 (by decide) rfl ?_
    refine g_aload_n C dL_law_788 3 rfl ?_
    refine g_aload_n C dL_law_789 5 rfl ?_
    refine g_iload C dL_law_790 1 rfl ?_
    refine g_iconst C dL_law_792 ?_
    refine g_iadd C dL_law_793 ?_
    refine g_sld CL (5 * j + 1) (by omega) (by omega) hL dL_law_794 ?_
    refine g_callVip (n := 1) (wr := oc E h (cset f 0 a) :: wc2) (post := R8_term E m (p8 1) (p8 2) ((xs (5 * j + 1)).toInt)) C (c_X8_term E l m kc le p8 d8 t8 rw8 hp8 ((xs (5 * j + 1)).toInt) (zI_rng _).1 (zI_rng _).2) gL_law_X8_term rfl (by decide +kernel) rfl ⟨⟨rfl, rfl⟩, by decide, show (168 + 2 * j + 2) + 0 ≤ 601024 by omega, show (4549 + 12 * j + 12) + 0 ≤ 7293033 by omega⟩ dL_law_795 rfl (Nat.le_of_ble_eq_true rfl) rfl rfl (List.Perm.refl _) (fun r_2 w_2 h_2 => ?_)
    rw [e1, e2] at h_2
    obtain ⟨rfl, hB3⟩ := nN_term hN h_2
    refine g_istore C [(6, .int (zI a)), (5, .int (zI 0)), (4, .int (zI ((5 * j : Nat) : Int))), (3, .ref h), (2, .ref (m 0)), (1, .ref (c 0)), (0, .ref b)] dL_law_798 (by decide) rfl ?_
    refine g_aload_n C dL_law_800 4 rfl ?_
    obtain ⟨A2, B2, hC2, le2, p9, d9, t9, rw9, hp9, f1, f2, rfl⟩ := hB3
    have hB3 : Both E c F pr m 0 wc2 (rmX E m 0 le2 p9 d9 t9 rw9) := ⟨A2, B2, hC2, le2, p9, d9, t9, rw9, hp9, f1, f2, rfl⟩
    refine g_callVip (n := 0) (wr := oc E h (cset f 0 a) :: wc2) C (c_X8_thrown E l m 0 le2 p9 d9 t9 rw9 hp9) gL_law_X8_thrown rfl (by decide +kernel) rfl ⟨⟨rfl, rfl⟩, by decide, show (168 + 2 * j + 2) + 0 + 0 ≤ 601024 by omega, show (4549 + 12 * j + 12) + 0 + 0 ≤ 7293033 by omega⟩ dL_law_801 rfl (Nat.le_of_ble_eq_true rfl) rfl rfl (List.Perm.refl _) (fun r_3 w_3 h_3 => ?_)
    obtain ⟨rfl, rfl⟩ := h_3
    refine g_iload C dL_law_804 1 rfl ?_
    refine g_icmp_eq C 811 dL_law_806 (by decide) (by omega) (by omega) (by omega) (by omega) (fun c_806 => ?_) (fun c_806 => by exfalso; omega)
    refine g_iload C dL_law_811 1 rfl ?_
    refine g_if_ne C 828 dL_law_813 (by decide) (by omega) (by omega) (fun h9 => absurd rfl h9) (fun _ => ?_)
    refine g_aload_n C dL_law_816 3 rfl ?_
    refine g_iconst C dL_law_817 ?_
    refine g_laldZ C 0 0 rfl (by omega) (by omega) (by decide) dL_law_818 ?_
    refine g_ltop (zL a) (congrArg zL cset_eq) ?_
    refine g_iload C dL_law_819 0 rfl ?_
    refine g_i2l C dL_law_821 (by omega) (by omega) ?_
    refine g_lcmp_eq C 828 dL_law_822 dL_law_823 (by decide) (by omega) (by omega) (by omega) (by omega) (fun c_822 => ?_) (fun c_822 => by exfalso; omega)
    refine g_goto C 921 dL_law_828 (by decide) ?_
    refine g_lsub C [2, 3, 4, 5, 6] rfl ?_
    refine g_wide C (ce2 := 168 + 2 * j + 2) (so2 := 4549 + 12 * j + 12) (by omega) (by omega) ?_
    exact next 0 (cset f 0 a) _ _ hB3
  · refine g_perm C (pm2 _ _ _) ?_
    have hk2 : k = 1 ∨ k = 2 := by rcases List.mem_cons.mp hk with h9 | h9; exact Or.inl (Prod.mk.inj h9).2; exact Or.inr (Prod.mk.inj (List.mem_singleton.mp h9)).2
    refine g_istore C [(5, .int (zI k)), (4, .int (zI ((5 * j : Nat) : Int))), (3, .ref h), (2, .ref (m 0)), (1, .ref (c 0)), (0, .ref b)] dL_law_786 (by decide) rfl ?_
    refine g_aload_n C dL_law_788 3 rfl ?_
    refine g_aload_n C dL_law_789 5 rfl ?_
    refine g_iload C dL_law_790 1 rfl ?_
    refine g_iconst C dL_law_792 ?_
    refine g_iadd C dL_law_793 ?_
    refine g_sld CL (5 * j + 1) (by omega) (by omega) hL dL_law_794 ?_
    refine g_callVip (n := 1) (wr := oc E h f :: wc2) (post := R8_term E m (p8 1) (p8 2) ((xs (5 * j + 1)).toInt)) C (c_X8_term E l m kc le p8 d8 t8 rw8 hp8 ((xs (5 * j + 1)).toInt) (zI_rng _).1 (zI_rng _).2) gL_law_X8_term rfl (by decide +kernel) rfl ⟨⟨rfl, rfl⟩, by decide, show (168 + 2 * j + 2) + 0 ≤ 601024 by omega, show (4549 + 12 * j + 12) + 0 ≤ 7293033 by omega⟩ dL_law_795 rfl (Nat.le_of_ble_eq_true rfl) rfl rfl (List.Perm.refl _) (fun r_2 w_2 h_2 => ?_)
    rw [e1, e2] at h_2
    have hB3 := nX_term hX hk h_2
    obtain ⟨z, z1, z2, rfl⟩ : ∃ z : Int, -2147483648 ≤ z ∧ z < 2147483648 ∧ r_2 = zI z := ⟨r_2.toInt, (zI_rng r_2).1, (zI_rng r_2).2, (zI_of r_2).symm⟩
    refine g_istore C [(6, .int (zI z)), (5, .int (zI k)), (4, .int (zI ((5 * j : Nat) : Int))), (3, .ref h), (2, .ref (m 0)), (1, .ref (c 0)), (0, .ref b)] dL_law_798 (by decide) rfl ?_
    refine g_aload_n C dL_law_800 4 rfl ?_
    obtain ⟨A2, B2, hC2, le2, p9, d9, t9, rw9, hp9, f1, f2, rfl⟩ := hB3
    have hB3 : Both E c F pr m k wc2 (rmX E m k le2 p9 d9 t9 rw9) := ⟨A2, B2, hC2, le2, p9, d9, t9, rw9, hp9, f1, f2, rfl⟩
    refine g_callVip (n := 0) (wr := oc E h f :: wc2) C (c_X8_thrown E l m k le2 p9 d9 t9 rw9 hp9) gL_law_X8_thrown rfl (by decide +kernel) rfl ⟨⟨rfl, rfl⟩, by decide, show (168 + 2 * j + 2) + 0 + 0 ≤ 601024 by omega, show (4549 + 12 * j + 12) + 0 + 0 ≤ 7293033 by omega⟩ dL_law_801 rfl (Nat.le_of_ble_eq_true rfl) rfl rfl (List.Perm.refl _) (fun r_3 w_3 h_3 => ?_)
    obtain ⟨rfl, rfl⟩ := h_3
    refine g_iload C dL_law_804 1 rfl ?_
    refine g_icmp_eq C 811 dL_law_806 (by decide) (by omega) (by omega) (by omega) (by omega) (fun c_806 => ?_) (fun c_806 => by exfalso; omega)
    refine g_iload C dL_law_811 1 rfl ?_
    refine g_if_ne C 828 dL_law_813 (by decide) (by omega) (by omega) (fun _ => ?_) (fun h9 => by exfalso; omega)
    refine g_goto C 921 dL_law_828 (by decide) ?_
    refine g_lsub C [2, 3, 4, 5, 6] rfl ?_
    refine g_wide C (ce2 := 168 + 2 * j + 2) (so2 := 4549 + 12 * j + 12) (by omega) (by omega) ?_
    exact next k f _ _ hB3
set_option maxHeartbeats 4000000 in
theorem lw_sum {G : Gt} {E : ev} {l : Launch} {nx : String} {b L : Nat} {xs : Nat → Int32} (CL : OkL G E l nx b L xs) (hl : l.stackTraces = false) (hL : L ≤ 2560) {c : Nat → Nat} {F : Nat → Nat × Nat × Nat × Nat × Nat} {pr : Nat → Option Nat} (hpr : ∀ j : Nat, j < 21 → pr j = some (F j).1) {m : Nat → Nat} {h : Nat} {f : Nat → Int} {kc : Int} {wc wm : va_W} (hB : Both E c F pr m kc wc wm) (j : Nat) (hj : 5 * j + 5 ≤ L)
    (next : ∀ (kc2 : Int) (f2 : Nat → Int) (wc2 wm2 : va_W), Both E c F pr m kc2 wc2 wm2 → G (168 + 2 * j + 2) (4549 + 12 * j + 12) (oc E h f2 :: (wc2 ++ wm2)) [(4, .int (zI ((5 * j : Nat) : Int))), (3, .ref h), (2, .ref (m 0)), (1, .ref (c 0)), (0, .ref b)] 921 []) : G (168 + 2 * j) (4549 + 12 * j) (oc E h f :: (wc ++ wm)) [(4, .int (zI ((5 * j : Nat) : Int))), (3, .ref h), (2, .ref (m 0)), (1, .ref (c 0)), (0, .ref b)] 831 [] := by
  have C := CL.ok
  obtain ⟨A, B, ⟨p, n, d, bh, o, i, hC, rfl, rfl, hperm⟩, le, p8, d8, t8, rw8, hp8, e1, e2, rfl⟩ := hB
  refine g_aload_n C dL_law_831 3 rfl ?_
  refine g_aload_n C dL_law_832 4 rfl ?_
  refine g_iload C dL_law_833 0 rfl ?_
  refine g_iconst C dL_law_835 ?_
  refine g_iadd C dL_law_836 ?_
  refine g_sld CL (5 * j + 1) (by omega) (by omega) hL dL_law_837 ?_
  refine g_aload_n C dL_law_838 1 rfl ?_
  refine g_callL (n := 3) (wr := rmX E m kc le p8 d8 t8 rw8) CL.t (c_L_sum E l hl c F pr p n d bh o i hpr hC ((xs (5 * j + 1)).toInt) (zI_rng _).1 (zI_rng _).2 h f) gL_law_L_sum rfl (by decide +kernel) rfl ⟨⟨rfl, rfl⟩, by decide, show 168 + 2 * j + 2 ≤ 601024 by omega, show 4549 + 12 * j + 12 ≤ 7293033 by omega⟩ dL_law_839 rfl (Nat.le_of_ble_eq_true rfl) (pm1 hperm) (fun r_1 w_1 h_1 => ?_)
  rcases h_1 with ⟨a, wc2, ⟨a1, a2⟩, hN, rfl, rfl⟩ | ⟨Ex, k, wc2, hk, hX, rfl, rfl⟩
  · refine g_perm C (pm2 _ _ _) ?_
    refine g_istore C [(5, .int (zI 0)), (4, .int (zI ((5 * j : Nat) : Int))), (3, .ref h), (2, .ref (m 0)), (1, .ref (c 0)), (0, .ref b)] dL_law_842 (by decide) rfl ?_
    refine g_aload_n C dL_law_844 3 rfl ?_
    refine g_aload_n C dL_law_845 5 rfl ?_
    refine g_iload C dL_law_846 1 rfl ?_
    refine g_iconst C dL_law_848 ?_
    refine g_iadd C dL_law_849 ?_
    refine g_sld CL (5 * j + 1) (by omega) (by omega) hL dL_law_850 ?_
    refine g_callVip (n := 1) (wr := oc E h (cset f 0 a) :: wc2) (post := R8_sum E m (p8 1) (p8 2) ((xs (5 * j + 1)).toInt)) C (c_X8_sum E l m kc le p8 d8 t8 rw8 hp8 ((xs (5 * j + 1)).toInt) (zI_rng _).1 (zI_rng _).2) gL_law_X8_sum rfl (by decide +kernel) rfl ⟨⟨rfl, rfl⟩, by decide, show (168 + 2 * j + 2) + 0 ≤ 601024 by omega, show (4549 + 12 * j + 12) + 0 ≤ 7293033 by omega⟩ dL_law_851 rfl (Nat.le_of_ble_eq_true rfl) rfl rfl (List.Perm.refl _) (fun r_2 w_2 h_2 => ?_)
    rw [e1, e2] at h_2
    obtain ⟨rfl, hB3⟩ := nN_sum hN h_2
    refine g_istore C [(6, .int (zI a)), (5, .int (zI 0)), (4, .int (zI ((5 * j : Nat) : Int))), (3, .ref h), (2, .ref (m 0)), (1, .ref (c 0)), (0, .ref b)] dL_law_854 (by decide) rfl ?_
    refine g_aload_n C dL_law_856 4 rfl ?_
    obtain ⟨A2, B2, hC2, le2, p9, d9, t9, rw9, hp9, f1, f2, rfl⟩ := hB3
    have hB3 : Both E c F pr m 0 wc2 (rmX E m 0 le2 p9 d9 t9 rw9) := ⟨A2, B2, hC2, le2, p9, d9, t9, rw9, hp9, f1, f2, rfl⟩
    refine g_callVip (n := 0) (wr := oc E h (cset f 0 a) :: wc2) C (c_X8_thrown E l m 0 le2 p9 d9 t9 rw9 hp9) gL_law_X8_thrown rfl (by decide +kernel) rfl ⟨⟨rfl, rfl⟩, by decide, show (168 + 2 * j + 2) + 0 + 0 ≤ 601024 by omega, show (4549 + 12 * j + 12) + 0 + 0 ≤ 7293033 by omega⟩ dL_law_857 rfl (Nat.le_of_ble_eq_true rfl) rfl rfl (List.Perm.refl _) (fun r_3 w_3 h_3 => ?_)
    obtain ⟨rfl, rfl⟩ := h_3
    refine g_iload C dL_law_860 1 rfl ?_
    refine g_icmp_eq C 867 dL_law_862 (by decide) (by omega) (by omega) (by omega) (by omega) (fun c_862 => ?_) (fun c_862 => by exfalso; omega)
    refine g_iload C dL_law_867 1 rfl ?_
    refine g_if_ne C 884 dL_law_869 (by decide) (by omega) (by omega) (fun h9 => absurd rfl h9) (fun _ => ?_)
    refine g_aload_n C dL_law_872 3 rfl ?_
    refine g_iconst C dL_law_873 ?_
    refine g_laldZ C 0 0 rfl (by omega) (by omega) (by decide) dL_law_874 ?_
    refine g_ltop (zL a) (congrArg zL cset_eq) ?_
    refine g_iload C dL_law_875 0 rfl ?_
    refine g_i2l C dL_law_877 (by omega) (by omega) ?_
    refine g_lcmp_eq C 884 dL_law_878 dL_law_879 (by decide) (by omega) (by omega) (by omega) (by omega) (fun c_878 => ?_) (fun c_878 => by exfalso; omega)
    refine g_goto C 921 dL_law_884 (by decide) ?_
    refine g_lsub C [2, 3, 4, 5, 6] rfl ?_
    refine g_wide C (ce2 := 168 + 2 * j + 2) (so2 := 4549 + 12 * j + 12) (by omega) (by omega) ?_
    exact next 0 (cset f 0 a) _ _ hB3
  · refine g_perm C (pm2 _ _ _) ?_
    have hk2 : k = 1 ∨ k = 2 := by rcases List.mem_cons.mp hk with h9 | h9; exact Or.inl (Prod.mk.inj h9).2; exact Or.inr (Prod.mk.inj (List.mem_singleton.mp h9)).2
    refine g_istore C [(5, .int (zI k)), (4, .int (zI ((5 * j : Nat) : Int))), (3, .ref h), (2, .ref (m 0)), (1, .ref (c 0)), (0, .ref b)] dL_law_842 (by decide) rfl ?_
    refine g_aload_n C dL_law_844 3 rfl ?_
    refine g_aload_n C dL_law_845 5 rfl ?_
    refine g_iload C dL_law_846 1 rfl ?_
    refine g_iconst C dL_law_848 ?_
    refine g_iadd C dL_law_849 ?_
    refine g_sld CL (5 * j + 1) (by omega) (by omega) hL dL_law_850 ?_
    refine g_callVip (n := 1) (wr := oc E h f :: wc2) (post := R8_sum E m (p8 1) (p8 2) ((xs (5 * j + 1)).toInt)) C (c_X8_sum E l m kc le p8 d8 t8 rw8 hp8 ((xs (5 * j + 1)).toInt) (zI_rng _).1 (zI_rng _).2) gL_law_X8_sum rfl (by decide +kernel) rfl ⟨⟨rfl, rfl⟩, by decide, show (168 + 2 * j + 2) + 0 ≤ 601024 by omega, show (4549 + 12 * j + 12) + 0 ≤ 7293033 by omega⟩ dL_law_851 rfl (Nat.le_of_ble_eq_true rfl) rfl rfl (List.Perm.refl _) (fun r_2 w_2 h_2 => ?_)
    rw [e1, e2] at h_2
    have hB3 := nX_sum hX hk h_2
    obtain ⟨z, z1, z2, rfl⟩ : ∃ z : Int, -2147483648 ≤ z ∧ z < 2147483648 ∧ r_2 = zI z := ⟨r_2.toInt, (zI_rng r_2).1, (zI_rng r_2).2, (zI_of r_2).symm⟩
    refine g_istore C [(6, .int (zI z)), (5, .int (zI k)), (4, .int (zI ((5 * j : Nat) : Int))), (3, .ref h), (2, .ref (m 0)), (1, .ref (c 0)), (0, .ref b)] dL_law_854 (by decide) rfl ?_
    refine g_aload_n C dL_law_856 4 rfl ?_
    obtain ⟨A2, B2, hC2, le2, p9, d9, t9, rw9, hp9, f1, f2, rfl⟩ := hB3
    have hB3 : Both E c F pr m k wc2 (rmX E m k le2 p9 d9 t9 rw9) := ⟨A2, B2, hC2, le2, p9, d9, t9, rw9, hp9, f1, f2, rfl⟩
    refine g_callVip (n := 0) (wr := oc E h f :: wc2) C (c_X8_thrown E l m k le2 p9 d9 t9 rw9 hp9) gL_law_X8_thrown rfl (by decide +kernel) rfl ⟨⟨rfl, rfl⟩, by decide, show (168 + 2 * j + 2) + 0 + 0 ≤ 601024 by omega, show (4549 + 12 * j + 12) + 0 + 0 ≤ 7293033 by omega⟩ dL_law_857 rfl (Nat.le_of_ble_eq_true rfl) rfl rfl (List.Perm.refl _) (fun r_3 w_3 h_3 => ?_)
    obtain ⟨rfl, rfl⟩ := h_3
    refine g_iload C dL_law_860 1 rfl ?_
    refine g_icmp_eq C 867 dL_law_862 (by decide) (by omega) (by omega) (by omega) (by omega) (fun c_862 => ?_) (fun c_862 => by exfalso; omega)
    refine g_iload C dL_law_867 1 rfl ?_
    refine g_if_ne C 884 dL_law_869 (by decide) (by omega) (by omega) (fun _ => ?_) (fun h9 => by exfalso; omega)
    refine g_goto C 921 dL_law_884 (by decide) ?_
    refine g_lsub C [2, 3, 4, 5, 6] rfl ?_
    refine g_wide C (ce2 := 168 + 2 * j + 2) (so2 := 4549 + 12 * j + 12) (by omega) (by omega) ?_
    exact next k f _ _ hB3
set_option maxHeartbeats 4000000 in
theorem lw_shift {G : Gt} {E : ev} {l : Launch} {nx : String} {b L : Nat} {xs : Nat → Int32} (CL : OkL G E l nx b L xs) (hl : l.stackTraces = false) (hL : L ≤ 2560) {c : Nat → Nat} {F : Nat → Nat × Nat × Nat × Nat × Nat} {pr : Nat → Option Nat} (hpr : ∀ j : Nat, j < 21 → pr j = some (F j).1) {m : Nat → Nat} {h : Nat} {f : Nat → Int} {kc : Int} {wc wm : va_W} (hB : Both E c F pr m kc wc wm) (j : Nat) (hj : 5 * j + 5 ≤ L)
    (next : ∀ (kc2 : Int) (f2 : Nat → Int) (wc2 wm2 : va_W), Both E c F pr m kc2 wc2 wm2 → G (168 + 2 * j + 2) (4549 + 12 * j + 12) (oc E h f2 :: (wc2 ++ wm2)) [(4, .int (zI ((5 * j : Nat) : Int))), (3, .ref h), (2, .ref (m 0)), (1, .ref (c 0)), (0, .ref b)] 921 []) : G (168 + 2 * j) (4549 + 12 * j) (oc E h f :: (wc ++ wm)) [(4, .int (zI ((5 * j : Nat) : Int))), (3, .ref h), (2, .ref (m 0)), (1, .ref (c 0)), (0, .ref b)] 887 [] := by
  have C := CL.ok
  obtain ⟨A, B, ⟨p, n, d, bh, o, i, hC, rfl, rfl, hperm⟩, le, p8, d8, t8, rw8, hp8, e1, e2, rfl⟩ := hB
  refine g_aload_n C dL_law_887 3 rfl ?_
  refine g_aload_n C dL_law_888 4 rfl ?_
  refine g_iload C dL_law_889 0 rfl ?_
  refine g_iconst C dL_law_891 ?_
  refine g_iadd C dL_law_892 ?_
  refine g_sld CL (5 * j + 1) (by omega) (by omega) hL dL_law_893 ?_
  refine g_perm C (pm1 hperm) ?_
  refine g_eq (ws' := (rmX E m kc le p8 d8 t8 rw8 ++ [oc E h f]) ++ (csX E c pr p n d bh ++ fam E F o i (List.range 21))) (ap3 _ _ _) rfl rfl ?_
  refine g_callVp (n := 1) (wr := rmX E m kc le p8 d8 t8 rw8 ++ [oc E h f]) C (c_X7_shift E l c F pr p n d bh o i hpr hC (xs (5 * j + 1)).toInt (zI_rng _).1 (zI_rng _).2) gL_law_X7_shift rfl (by decide +kernel) rfl ⟨⟨rfl, rfl⟩, by decide, show 168 + 2 * j + 0 ≤ 601024 by omega, show 4549 + 12 * j + 0 ≤ 7293033 by omega⟩ dL_law_894 rfl (Nat.le_of_ble_eq_true rfl) rfl rfl (List.Perm.refl _) (fun wc2 h_1 => ?_)
  refine g_eq (ws' := rmX E m kc le p8 d8 t8 rw8 ++ (oc E h f :: wc2)) (ap3 _ _ _).symm rfl rfl ?_
  refine g_perm C (pm2 _ _ _) ?_
  refine g_aload_n C dL_law_897 2 rfl ?_
  refine g_aload_n C dL_law_898 4 rfl ?_
  refine g_iload C dL_law_899 0 rfl ?_
  refine g_iconst C dL_law_901 ?_
  refine g_iadd C dL_law_902 ?_
  refine g_sld CL (5 * j + 1) (by omega) (by omega) hL dL_law_903 ?_
  refine g_callVp (n := 1) (wr := oc E h f :: wc2) C (c_X8_shift E l m kc le p8 d8 t8 rw8 hp8 (xs (5 * j + 1)).toInt (zI_rng _).1 (zI_rng _).2) gL_law_X8_shift rfl (by decide +kernel) rfl ⟨⟨rfl, rfl⟩, by decide, show 168 + 2 * j + 0 + 0 ≤ 601024 by omega, show 4549 + 12 * j + 0 + 0 ≤ 7293033 by omega⟩ dL_law_904 rfl (Nat.le_of_ble_eq_true rfl) rfl rfl (List.Perm.refl _) (fun wm2 h_2 => ?_)
  rw [e1, e2] at h_2
  have hB3 : Both E c F pr m 0 wc2 wm2 := ⟨_, _, h_1, h_2⟩
  refine g_goto C 921 dL_law_907 (by decide) ?_
  refine g_wide C (ce2 := 168 + 2 * j + 2) (so2 := 4549 + 12 * j + 12) (by omega) (by omega) ?_
  exact next 0 f _ _ hB3
set_option maxHeartbeats 4000000 in
theorem lw_clear {G : Gt} {E : ev} {l : Launch} {nx : String} {b L : Nat} {xs : Nat → Int32} (CL : OkL G E l nx b L xs) (hl : l.stackTraces = false) (hL : L ≤ 2560) {c : Nat → Nat} {F : Nat → Nat × Nat × Nat × Nat × Nat} {pr : Nat → Option Nat} (hpr : ∀ j : Nat, j < 21 → pr j = some (F j).1) {m : Nat → Nat} {h : Nat} {f : Nat → Int} {kc : Int} {wc wm : va_W} (hB : Both E c F pr m kc wc wm) (j : Nat) (hj : 5 * j + 5 ≤ L)
    (next : ∀ (kc2 : Int) (f2 : Nat → Int) (wc2 wm2 : va_W), Both E c F pr m kc2 wc2 wm2 → G (168 + 2 * j + 2) (4549 + 12 * j + 12) (oc E h f2 :: (wc2 ++ wm2)) [(4, .int (zI ((5 * j : Nat) : Int))), (3, .ref h), (2, .ref (m 0)), (1, .ref (c 0)), (0, .ref b)] 921 []) : G (168 + 2 * j) (4549 + 12 * j) (oc E h f :: (wc ++ wm)) [(4, .int (zI ((5 * j : Nat) : Int))), (3, .ref h), (2, .ref (m 0)), (1, .ref (c 0)), (0, .ref b)] 910 [] := by
  have C := CL.ok
  obtain ⟨A, B, ⟨p, n, d, bh, o, i, hC, rfl, rfl, hperm⟩, le, p8, d8, t8, rw8, hp8, e1, e2, rfl⟩ := hB
  refine g_aload_n C dL_law_910 3 rfl ?_
  refine g_perm C (pm1 hperm) ?_
  refine g_eq (ws' := (rmX E m kc le p8 d8 t8 rw8 ++ [oc E h f]) ++ (csX E c pr p n d bh ++ fam E F o i (List.range 21))) (ap3 _ _ _) rfl rfl ?_
  refine g_callVp (n := 0) (wr := rmX E m kc le p8 d8 t8 rw8 ++ [oc E h f]) C (c_X7_clear E l c F pr p n d bh o i hpr hC) gL_law_X7_clear rfl (by decide +kernel) rfl ⟨⟨rfl, rfl⟩, by decide, show 168 + 2 * j + 0 ≤ 601024 by omega, show 4549 + 12 * j + 0 ≤ 7293033 by omega⟩ dL_law_911 rfl (Nat.le_of_ble_eq_true rfl) rfl rfl (List.Perm.refl _) (fun wc2 h_1 => ?_)
  refine g_eq (ws' := rmX E m kc le p8 d8 t8 rw8 ++ (oc E h f :: wc2)) (ap3 _ _ _).symm rfl rfl ?_
  refine g_perm C (pm2 _ _ _) ?_
  refine g_aload_n C dL_law_914 2 rfl ?_
  refine g_callVp (n := 0) (wr := oc E h f :: wc2) C (c_X8_clear E l m kc le p8 d8 t8 rw8 hp8) gL_law_X8_clear rfl (by decide +kernel) rfl ⟨⟨rfl, rfl⟩, by decide, show 168 + 2 * j + 0 + 0 ≤ 601024 by omega, show 4549 + 12 * j + 0 + 0 ≤ 7293033 by omega⟩ dL_law_915 rfl (Nat.le_of_ble_eq_true rfl) rfl rfl (List.Perm.refl _) (fun wm2 h_2 => ?_)
  have hB3 : Both E c F pr m 0 wc2 wm2 := ⟨_, _, h_1, h_2⟩
  refine g_goto C 921 dL_law_918 (by decide) ?_
  refine g_wide C (ce2 := 168 + 2 * j + 2) (so2 := 4549 + 12 * j + 12) (by omega) (by omega) ?_
  exact next 0 f _ _ hB3
