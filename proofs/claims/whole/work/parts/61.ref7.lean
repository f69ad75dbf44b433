/-! a row brought out: rows swapped, the row scaled, the others cleared -/
def brW (t : Po) (r a : Nat) : Po := fun j => if j / 22 = a then t (22 * r + j % 22) else if j / 22 = r then t (22 * a + j % 22) else t j
def brS (t : Po) (r : Nat) (u : Fq) : Po := fun j => if j / 22 = r then t j * u else t j
def brE (t : Po) (r k : Nat) : Po := fun j => if j / 22 = r ∨ 64 ≤ j / 22 then t j else t j + -(t (22 * (j / 22) + k)) * t (22 * r + j % 22)
def brT (t : Po) (r a k : Nat) : Po := brS (brW t r a) r (ivq (brW t r a (22 * r + k)))
def brO (t : Po) (r a k : Nat) : Po := brE (brT t r a k) r k
theorem bw_next {t c : Po} {r a i : Nat} (hi : i < 22) (hc : ∀ j : Nat, c j = if j % 22 < i then brW t r a j else t j) (j : Nat) : cset (cset c (22 * a + i) (c (22 * r + i))) (22 * r + i) (c (22 * a + i)) j = if j % 22 < i + 1 then brW t r a j else t j := by
  have e1 : c (22 * a + i) = t (22 * a + i) := by rw [hc, if_neg (by omega)]
  have e2 : c (22 * r + i) = t (22 * r + i) := by rw [hc, if_neg (by omega)]
  by_cases g : j = 22 * r + i
  · rw [g, cset_eq, if_pos (by omega), e1]
    unfold brW
    rw [show (22 * r + i) / 22 = r by omega, show (22 * r + i) % 22 = i by omega]
    by_cases ga : r = a
    · rw [if_pos ga, ga]
    · rw [if_neg ga, if_pos rfl]
  · rw [cset_ne g]
    by_cases g2 : j = 22 * a + i
    · rw [g2, cset_eq, if_pos (by omega), e2]
      unfold brW
      rw [show (22 * a + i) / 22 = a by omega, show (22 * a + i) % 22 = i by omega, if_pos rfl]
    · rw [cset_ne g2, hc j]
      by_cases g3 : j % 22 < i
      · rw [if_pos g3, if_pos (by omega)]
      · rw [if_neg g3]
        by_cases g4 : j % 22 < i + 1
        · rw [if_pos g4]
          unfold brW
          rw [if_neg (by omega), if_neg (by omega)]
        · rw [if_neg g4]
theorem bw_all {t c : Po} {r a i : Nat} (hi : 22 ≤ i) (hc : ∀ j : Nat, c j = if j % 22 < i then brW t r a j else t j) : c = brW t r a := funext (fun j => by rw [hc j, if_pos (by omega)])
theorem bs_next {t c : Po} {r i : Nat} {u v : Fq} (hi : i < 22) (hc : ∀ j : Nat, c j = if j / 22 = r ∧ j % 22 < i then t j * u else t j) (hv : v = t (22 * r + i) * u) (j : Nat) : cset c (22 * r + i) v j = if j / 22 = r ∧ j % 22 < i + 1 then t j * u else t j := by
  by_cases g : j = 22 * r + i
  · rw [g, cset_eq, if_pos (by omega), hv]
  · rw [cset_ne g, hc j]
    by_cases g3 : j / 22 = r ∧ j % 22 < i
    · rw [if_pos g3, if_pos (by omega)]
    · rw [if_neg g3, if_neg (by omega)]
theorem bs_all {t c : Po} {r i : Nat} {u : Fq} (hi : 22 ≤ i) (hc : ∀ j : Nat, c j = if j / 22 = r ∧ j % 22 < i then t j * u else t j) : c = brS t r u := funext (fun j => by
  rw [hc j]; unfold brS
  by_cases g : j / 22 = r
  · rw [if_pos g, if_pos (by omega)]
  · rw [if_neg g, if_neg (by omega)])
theorem bs_at {t c : Po} {r i : Nat} {u : Fq} (hi : i < 22) (hc : ∀ j : Nat, c j = if j / 22 = r ∧ j % 22 < i then t j * u else t j) : c (22 * r + i) = t (22 * r + i) := by rw [hc, if_neg (by omega)]
/-- the rows below n are cleared -/
def Be (t : Po) (r k n : Nat) (c : Po) : Prop := ∀ j : Nat, c j = if j / 22 < n then brE t r k j else t j
theorem Be_r {t c : Po} {r k n i : Nat} (hi : i < 22) (h : Be t r k n c) : c (22 * r + i) = t (22 * r + i) := by
  rw [h]
  split
  · unfold brE; rw [if_pos (by omega)]
  · rfl
theorem Be_n {t c : Po} {r k n i : Nat} (hi : i < 22) (h : Be t r k n c) : c (22 * n + i) = t (22 * n + i) := by rw [h, if_neg (by omega)]
/-- row n, below i -/
def Bi (t : Po) (r n i : Nat) (v : Fq) (c c2 : Po) : Prop := ∀ j : Nat, c2 j = if j / 22 = n ∧ j % 22 < i then t j + -v * t (22 * r + j % 22) else c j
theorem Bi_next {t c c2 : Po} {r k n i : Nat} {v w : Fq} (hi : i < 22) (hb : Be t r k n c) (h : Bi t r n i v c c2) (hw : w = t (22 * n + i) + -v * t (22 * r + i)) : Bi t r n (i + 1) v c (cset c2 (22 * n + i) w) := fun j => by
  by_cases g : j = 22 * n + i
  · rw [g, cset_eq, if_pos (by omega), hw, show (22 * n + i) % 22 = i by omega]
  · rw [cset_ne g, h j]
    by_cases g3 : j / 22 = n ∧ j % 22 < i
    · rw [if_pos g3, if_pos (by omega)]
    · rw [if_neg g3, if_neg (by omega)]
theorem Bi_at {t c c2 : Po} {r k n i : Nat} {v : Fq} (hi : i < 22) (hb : Be t r k n c) (h : Bi t r n i v c c2) : c2 (22 * n + i) = t (22 * n + i) := by rw [h, if_neg (by omega)]; exact Be_n hi hb
theorem Bi_r {t c c2 : Po} {r k n i : Nat} {v : Fq} (hi : i < 22) (hr : n ≠ r) (hb : Be t r k n c) (h : Bi t r n i v c c2) : c2 (22 * r + i) = t (22 * r + i) := by rw [h, if_neg (by omega)]; exact Be_r hi hb
theorem Be_next {t c c2 : Po} {r k n i : Nat} {v : Fq} (hn : n < 64) (hb : Be t r k n c) (h : Bi t r n i v c c2) (hv : (n = r ∧ v = 0) ∨ (n ≠ r ∧ v = t (22 * n + k))) (hi : 22 ≤ i ∨ v = 0) : Be t r k (n + 1) c2 := fun j => by
  have hw : j / 22 = n → brE t r k j = t j + -v * t (22 * r + j % 22) := fun g => by
    unfold brE
    rcases hv with ⟨h1, h2⟩ | ⟨h1, h2⟩
    · rw [if_pos (Or.inl (by omega)), h2]; grind
    · rw [if_neg (by omega), g, h2]
  rw [h j]
  by_cases g : j / 22 = n
  · rw [if_pos (show j / 22 < n + 1 by omega), hw g]
    by_cases g2 : j % 22 < i
    · rw [if_pos ⟨g, g2⟩]
    · rw [if_neg (by omega), hb j, if_neg (by omega)]
      rcases hi with hi | hi
      · omega
      · rw [hi]; grind
  · rw [if_neg (by omega), hb j]
    by_cases g2 : j / 22 < n
    · rw [if_pos g2, if_pos (by omega)]
    · rw [if_neg g2, if_neg (by omega)]
theorem Be_all {t c : Po} {r k n : Nat} (hn : 64 ≤ n) (hb : Be t r k n c) : c = brE t r k := funext (fun j => by
  rw [hb j]
  split
  · rfl
  · unfold brE; rw [if_pos (Or.inr (by omega))])
theorem Be_0 {t : Po} {r k : Nat} : Be t r k 0 t := fun j => by rw [if_neg (by omega)]
theorem Bi_0 {t c : Po} {r n : Nat} {v : Fq} : Bi t r n 0 v c c := fun j => by rw [if_neg (by omega)]
theorem in_X8_bringOut_X8 : ∀ w ∈ u_ws RX8 TX8 18, w ∈ wsX8_bringOut := by decide +kernel
theorem lk_X8_bringOut_table : Cond.fieldLink yX8_bringOut.cls 50 (TX8 15).1 (TX8 15).2.1 (TX8 15).2.2.1 ∈ wsX8_bringOut := by decide +kernel
theorem lk_X8_bringOut_l32003 : Jvm.Cond.constantLong yX8_bringOut.cls 63 (zL 32003) ∈ wsX8_bringOut := by decide +kernel
set_option maxHeartbeats 4000000 in
set_option maxRecDepth 100000 in
theorem c_X8_bringOut (E : ev) (l : Launch) (m : Nat → Nat) (kc le : Int) (r a k : Nat) (t : Po) (hr : r < 64) (ha : a < 64) (hk : k < 22) : Mv E l yX8_bringOut wsX8_bringOut { frames := 1, cells := 0, slots := 0, locals := 30 } [.ref (m 0), .int (zI (r : Int)), .int (zI (a : Int)), .int (zI (k : Int))] [(m 0, .inr (8, [.int (zI kc), .ref (m 1), .ref (m 2), .ref (m 3), .ref (m 4), .ref (m 5), .ref (m 6), .int (zI le), .ref (m 7), .ref (m 8), .ref (m 9), .ref (m 10), .ref (m 11), .ref (m 12), .ref (m 13), .ref (m 14), .ref (m 15), .ref (m 16)])), (m 14, .inl (E.2.2.2.1, 1408, .inr (.inl (pL t))))] (fun w => w = [(m 0, .inr (8, [.int (zI kc), .ref (m 1), .ref (m 2), .ref (m 3), .ref (m 4), .ref (m 5), .ref (m 6), .int (zI le), .ref (m 7), .ref (m 8), .ref (m 9), .ref (m 10), .ref (m 11), .ref (m 12), .ref (m 13), .ref (m 14), .ref (m 15), .ref (m 16)])), (m 14, .inl (E.2.2.2.1, 1408, .inr (.inl (pL (brO t r a k)))))]) 0 0 := by
  refine enter_v (cc := cX8_bringOut) (nL := 10) (by decide) rfl (Nat.le_of_ble_eq_true rfl) (fun G C hret => ?_)
  show G 0 0 [(m 0, .inr (8, [.int (zI kc), .ref (m 1), .ref (m 2), .ref (m 3), .ref (m 4), .ref (m 5), .ref (m 6), .int (zI le), .ref (m 7), .ref (m 8), .ref (m 9), .ref (m 10), .ref (m 11), .ref (m 12), .ref (m 13), .ref (m 14), .ref (m 15), .ref (m 16)])), (m 14, .inl (E.2.2.2.1, 1408, .inr (.inl (pL t))))] [(0, .ref (m 0)), (1, .int (zI (r : Int))), (2, .int (zI (a : Int))), (3, .int (zI (k : Int)))] 0 []
  refine g_iconst C dX8_bringOut_0 ?_
  refine g_istore C [(4, .int (zI 0)), (0, .ref (m 0)), (1, .int (zI (r : Int))), (2, .int (zI (a : Int))), (3, .int (zI (k : Int)))] dX8_bringOut_1 (by decide) rfl ?_
  have lp_w : ∀ (n_w : Nat) (y : Int) (i : Nat) (c : Po), (y = (i : Int)) → (i ≤ 22) → (∀ j : Nat, c j = if j % 22 < i then brW t r a j else t j) → 22 - i < n_w → G 0 0 [(m 0, .inr (8, [.int (zI kc), .ref (m 1), .ref (m 2), .ref (m 3), .ref (m 4), .ref (m 5), .ref (m 6), .int (zI le), .ref (m 7), .ref (m 8), .ref (m 9), .ref (m 10), .ref (m 11), .ref (m 12), .ref (m 13), .ref (m 14), .ref (m 15), .ref (m 16)])), (m 14, .inl (E.2.2.2.1, 1408, .inr (.inl (pL c))))] [(4, .int (zI y)), (0, .ref (m 0)), (1, .int (zI (r : Int))), (2, .int (zI (a : Int))), (3, .int (zI (k : Int)))] 3 [] := by
    intro n_w
    induction n_w with
    | zero =>
      intro y i c hy hi9 hc hm_w
      exact absurd hm_w (by omega)
    | succ n_w ih_w =>
      intro y i c hy hi9 hc hm_w
      refine g_iload C dX8_bringOut_3 0 rfl ?_
      refine g_bipush C dX8_bringOut_5 rfl ?_
      refine g_icmp_ge C 68 dX8_bringOut_7 (by decide) (by omega) (by omega) (by omega) (by omega) (fun c_7 => ?_) (fun c_7 => ?_)
      · obtain rfl : c = brW t r a := bw_all (by omega) hc
        refine g_aload_n C dX8_bringOut_68 1 rfl ?_
        refine g_get C 0 rfl rfl 15 (by decide) in_X8_bringOut_X8 lk_X8_bringOut_table rfl dX8_bringOut_69 ?_
        refine g_bipush C dX8_bringOut_72 rfl ?_
        refine g_iload_n C dX8_bringOut_74 2 rfl ?_
        refine g_imul C dX8_bringOut_75 ?_
        refine g_iload_n C dX8_bringOut_76 4 rfl ?_
        refine g_iadd C dX8_bringOut_77 ?_
        refine g_lald C 1 (22 * r + k) rfl (by omega) (by omega) (by decide) dX8_bringOut_78 ?_
        refine g_callSOl (n := 1) C (c_X8_inverse E l (brW t r a (22 * r + k))) gX8_bringOut_X8_inverse rfl (by decide +kernel) rfl (by decide) dX8_bringOut_79 rfl (Nat.le_of_ble_eq_true rfl) (fun r_79 h_79 => ?_)
        obtain ⟨_, rfl, -⟩ := h_79
        refine g_lstore C [(4, .long (zL ((ivq (brW t r a (22 * r + k))).val : Int))), (0, .ref (m 0)), (1, .int (zI (r : Int))), (2, .int (zI (a : Int))), (3, .int (zI (k : Int)))] dX8_bringOut_82 (by decide) rfl ?_
        refine g_iconst C dX8_bringOut_84 ?_
        refine g_istore C [(6, .int (zI 0)), (4, .long (zL ((ivq (brW t r a (22 * r + k))).val : Int))), (0, .ref (m 0)), (1, .int (zI (r : Int))), (2, .int (zI (a : Int))), (3, .int (zI (k : Int)))] dX8_bringOut_85 (by decide) rfl ?_
        have lp_s : ∀ (n_s : Nat) (y : Int) (i : Nat) (c : Po), (y = (i : Int)) → (i ≤ 22) → (∀ j : Nat, c j = if j / 22 = r ∧ j % 22 < i then brW t r a j * ivq (brW t r a (22 * r + k)) else brW t r a j) → 22 - i < n_s → G 0 0 [(m 0, .inr (8, [.int (zI kc), .ref (m 1), .ref (m 2), .ref (m 3), .ref (m 4), .ref (m 5), .ref (m 6), .int (zI le), .ref (m 7), .ref (m 8), .ref (m 9), .ref (m 10), .ref (m 11), .ref (m 12), .ref (m 13), .ref (m 14), .ref (m 15), .ref (m 16)])), (m 14, .inl (E.2.2.2.1, 1408, .inr (.inl (pL c))))] [(6, .int (zI y)), (4, .long (zL ((ivq (brW t r a (22 * r + k))).val : Int))), (0, .ref (m 0)), (1, .int (zI (r : Int))), (2, .int (zI (a : Int))), (3, .int (zI (k : Int)))] 87 [] := by
          intro n_s
          induction n_s with
          | zero =>
            intro y i c hy hi9 hc hm_s
            exact absurd hm_s (by omega)
          | succ n_s ih_s =>
            intro y i c hy hi9 hc hm_s
            refine g_iload C dX8_bringOut_87 0 rfl ?_
            refine g_bipush C dX8_bringOut_89 rfl ?_
            refine g_icmp_ge C 131 dX8_bringOut_91 (by decide) (by omega) (by omega) (by omega) (by omega) (fun c_91 => ?_) (fun c_91 => ?_)
            · obtain rfl : c = brT t r a k := bs_all (by omega) hc
              refine g_iconst C dX8_bringOut_131 ?_
              refine g_istore C [(6, .int (zI 0)), (4, .long (zL ((ivq (brW t r a (22 * r + k))).val : Int))), (0, .ref (m 0)), (1, .int (zI (r : Int))), (2, .int (zI (a : Int))), (3, .int (zI (k : Int)))] dX8_bringOut_132 (by decide) rfl ?_
              have lp_e : ∀ (n_e : Nat) (z : Int) (n : Nat) (c : Po), (z = (n : Int)) → (n ≤ 64) → (Be (brT t r a k) r k n c) → 64 - n < n_e → G 0 0 [(m 0, .inr (8, [.int (zI kc), .ref (m 1), .ref (m 2), .ref (m 3), .ref (m 4), .ref (m 5), .ref (m 6), .int (zI le), .ref (m 7), .ref (m 8), .ref (m 9), .ref (m 10), .ref (m 11), .ref (m 12), .ref (m 13), .ref (m 14), .ref (m 15), .ref (m 16)])), (m 14, .inl (E.2.2.2.1, 1408, .inr (.inl (pL c))))] [(6, .int (zI z)), (4, .long (zL ((ivq (brW t r a (22 * r + k))).val : Int))), (0, .ref (m 0)), (1, .int (zI (r : Int))), (2, .int (zI (a : Int))), (3, .int (zI (k : Int)))] 134 [] := by
                intro n_e
                induction n_e with
                | zero =>
                  intro z n c hz hn hb hm_e
                  exact absurd hm_e (by omega)
                | succ n_e ih_e =>
                  intro z n c hz hn hb hm_e
                  refine g_iload C dX8_bringOut_134 0 rfl ?_
                  refine g_bipush C dX8_bringOut_136 rfl ?_
                  refine g_icmp_ge C 239 dX8_bringOut_138 (by decide) (by omega) (by omega) (by omega) (by omega) (fun c_138 => ?_) (fun c_138 => ?_)
                  · obtain rfl : c = brO t r a k := Be_all (by omega) hb
                    exact hret _ _ _ _ _ dX8_bringOut_239 (by decide) (by decide) rfl
                  · refine g_iload C dX8_bringOut_141 0 rfl ?_
                    refine g_iload_n C dX8_bringOut_143 3 rfl ?_
                    refine g_icmp_ne C 151 dX8_bringOut_144 (by decide) (by omega) (by omega) (by omega) (by omega) (fun c_144 => ?_) (fun c_144 => ?_)
                    · refine g_aload_n C dX8_bringOut_151 2 rfl ?_
                      refine g_get C 0 rfl rfl 15 (by decide) in_X8_bringOut_X8 lk_X8_bringOut_table rfl dX8_bringOut_152 ?_
                      refine g_bipush C dX8_bringOut_155 rfl ?_
                      refine g_iload C dX8_bringOut_157 0 rfl ?_
                      refine g_imul C dX8_bringOut_159 ?_
                      refine g_iload_n C dX8_bringOut_160 5 rfl ?_
                      refine g_iadd C dX8_bringOut_161 ?_
                      refine g_lald C 1 (22 * n + k) rfl (by omega) (by omega) (by decide) dX8_bringOut_162 ?_
                      refine g_lstore C [(7, .long (zL ((c (22 * n + k)).val : Int))), (6, .int (zI z)), (4, .long (zL ((ivq (brW t r a (22 * r + k))).val : Int))), (0, .ref (m 0)), (1, .int (zI (r : Int))), (2, .int (zI (a : Int))), (3, .int (zI (k : Int)))] dX8_bringOut_163 (by decide) rfl ?_
                      obtain ⟨v, hv, hv0⟩ : ∃ v : Fq, ((n = r ∧ v = 0) ∨ (n ≠ r ∧ v = (brT t r a k) (22 * n + k))) ∧ ((c (22 * n + k)).val : Int) = (v.val : Int) := ⟨c (22 * n + k), Or.inr ⟨by omega, Be_n (by omega) hb⟩, rfl⟩
                      refine g_eq (lv' := [(7, .long (zL (v.val : Int))), (6, .int (zI z)), (4, .long (zL ((ivq (brW t r a (22 * r + k))).val : Int))), (0, .ref (m 0)), (1, .int (zI (r : Int))), (2, .int (zI (a : Int))), (3, .int (zI (k : Int)))]) rfl (by rw [hv0]) rfl ?_
                      refine g_iconst C dX8_bringOut_165 ?_
                      refine g_istore C [(9, .int (zI 0)), (7, .long (zL (v.val : Int))), (6, .int (zI z)), (4, .long (zL ((ivq (brW t r a (22 * r + k))).val : Int))), (0, .ref (m 0)), (1, .int (zI (r : Int))), (2, .int (zI (a : Int))), (3, .int (zI (k : Int)))] dX8_bringOut_166 (by decide) rfl ?_
                      have lp_i : ∀ (n_i : Nat) (y : Int) (i : Nat) (c2 : Po), (y = (i : Int)) → (i ≤ 22) → (Bi (brT t r a k) r n i v c c2) → 22 - i < n_i → G 0 0 [(m 0, .inr (8, [.int (zI kc), .ref (m 1), .ref (m 2), .ref (m 3), .ref (m 4), .ref (m 5), .ref (m 6), .int (zI le), .ref (m 7), .ref (m 8), .ref (m 9), .ref (m 10), .ref (m 11), .ref (m 12), .ref (m 13), .ref (m 14), .ref (m 15), .ref (m 16)])), (m 14, .inl (E.2.2.2.1, 1408, .inr (.inl (pL c2))))] [(9, .int (zI y)), (7, .long (zL (v.val : Int))), (6, .int (zI z)), (4, .long (zL ((ivq (brW t r a (22 * r + k))).val : Int))), (0, .ref (m 0)), (1, .int (zI (r : Int))), (2, .int (zI (a : Int))), (3, .int (zI (k : Int)))] 168 [] := by
                        intro n_i
                        induction n_i with
                        | zero =>
                          intro y i c2 hy hi9 h2 hm_i
                          exact absurd hm_i (by omega)
                        | succ n_i ih_i =>
                          intro y i c2 hy hi9 h2 hm_i
                          refine g_iload C dX8_bringOut_168 0 rfl ?_
                          refine g_bipush C dX8_bringOut_170 rfl ?_
                          refine g_icmp_ge C 233 dX8_bringOut_172 (by decide) (by omega) (by omega) (by omega) (by omega) (fun c_172 => ?_) (fun c_172 => ?_)
                          · have hend : 22 ≤ i ∨ v = 0 := Or.inl (by omega)
                            refine g_iinc C [(6, .int (zI (z + 1))), (9, .int (zI y)), (7, .long (zL (v.val : Int))), (4, .long (zL ((ivq (brW t r a (22 * r + k))).val : Int))), (0, .ref (m 0)), (1, .int (zI (r : Int))), (2, .int (zI (a : Int))), (3, .int (zI (k : Int)))] dX8_bringOut_233 2 rfl (by decide) rfl ?_
                            refine g_goto C 134 dX8_bringOut_236 (by decide) ?_
                            refine g_lsub C [0, 3, 4, 5, 6, 7] rfl ?_
                            exact ih_e (z + 1) (n + 1) c2 (by omega) (by omega) (Be_next (v := v) (by omega) hb h2 hv hend) (by omega)
                          · refine g_lload C dX8_bringOut_175 1 rfl ?_
                            refine g_lconst C dX8_bringOut_177 ?_
                            refine g_lcmp_le C 233 dX8_bringOut_178 dX8_bringOut_179 (by decide) (by have := v.isLt; omega) (by have := v.isLt; omega) (by have := v.isLt; omega) (by have := v.isLt; omega) (fun c_178 => ?_) (fun c_178 => ?_)
                            · have hend : 22 ≤ i ∨ v = 0 := Or.inr (fq0 (by omega))
                              refine g_iinc C [(6, .int (zI (z + 1))), (9, .int (zI y)), (7, .long (zL (v.val : Int))), (4, .long (zL ((ivq (brW t r a (22 * r + k))).val : Int))), (0, .ref (m 0)), (1, .int (zI (r : Int))), (2, .int (zI (a : Int))), (3, .int (zI (k : Int)))] dX8_bringOut_233 2 rfl (by decide) rfl ?_
                              refine g_goto C 134 dX8_bringOut_236 (by decide) ?_
                              refine g_lsub C [0, 3, 4, 5, 6, 7] rfl ?_
                              exact ih_e (z + 1) (n + 1) c2 (by omega) (by omega) (Be_next (v := v) (by omega) hb h2 hv hend) (by omega)
                            · have hne : n ≠ r := by rcases hv with h9 | h9; (rw [h9.2] at c_178; exact absurd c_178 (by decide)); exact h9.1
                              refine g_aload_n C dX8_bringOut_182 4 rfl ?_
                              refine g_get C 0 rfl rfl 15 (by decide) in_X8_bringOut_X8 lk_X8_bringOut_table rfl dX8_bringOut_183 ?_
                              refine g_bipush C dX8_bringOut_186 rfl ?_
                              refine g_iload C dX8_bringOut_188 2 rfl ?_
                              refine g_imul C dX8_bringOut_190 ?_
                              refine g_iload C dX8_bringOut_191 0 rfl ?_
                              refine g_iadd C dX8_bringOut_193 ?_
                              refine g_aload_n C dX8_bringOut_194 4 rfl ?_
                              refine g_get C 0 rfl rfl 15 (by decide) in_X8_bringOut_X8 lk_X8_bringOut_table rfl dX8_bringOut_195 ?_
                              refine g_bipush C dX8_bringOut_198 rfl ?_
                              refine g_iload C dX8_bringOut_200 2 rfl ?_
                              refine g_imul C dX8_bringOut_202 ?_
                              refine g_iload C dX8_bringOut_203 0 rfl ?_
                              refine g_iadd C dX8_bringOut_205 ?_
                              refine g_lald C 1 (22 * n + i) rfl (by omega) (by omega) (by decide) dX8_bringOut_206 ?_
                              refine g_lload C dX8_bringOut_207 1 rfl ?_
                              refine g_aload_n C dX8_bringOut_209 4 rfl ?_
                              refine g_get C 0 rfl rfl 15 (by decide) in_X8_bringOut_X8 lk_X8_bringOut_table rfl dX8_bringOut_210 ?_
                              refine g_bipush C dX8_bringOut_213 rfl ?_
                              refine g_iload_n C dX8_bringOut_215 5 rfl ?_
                              refine g_imul C dX8_bringOut_216 ?_
                              refine g_iload C dX8_bringOut_217 0 rfl ?_
                              refine g_iadd C dX8_bringOut_219 ?_
                              refine g_lald C 1 (22 * r + i) rfl (by omega) (by omega) (by decide) dX8_bringOut_220 ?_
                              refine g_jmul C dX8_bringOut_221 ?_
                              refine g_jsub C dX8_bringOut_222 ?_
                              have h97 := fq_mulb v (c2 (22 * r + i))
                              have h98 := (c2 (22 * n + i)).isLt
                              refine g_callSOl (n := 1) C (c_X8_modulo E l _ (by omega) (by omega)) gX8_bringOut_X8_modulo rfl (by decide +kernel) rfl (by decide) dX8_bringOut_223 rfl (Nat.le_of_ble_eq_true rfl) (fun r_223 h_223 => ?_)
                              obtain ⟨_, rfl, -⟩ := h_223
                              refine g_ltop (zL ((c2 (22 * n + i) + -v * c2 (22 * r + i)).val : Int)) (congrArg (fun u : Fq => zL (u.val : Int)) (by simp only [cF_sub, cF_mul, cF_of]; grind)) ?_
                              refine g_last C [(m 0, .inr (8, [.int (zI kc), .ref (m 1), .ref (m 2), .ref (m 3), .ref (m 4), .ref (m 5), .ref (m 6), .int (zI le), .ref (m 7), .ref (m 8), .ref (m 9), .ref (m 10), .ref (m 11), .ref (m 12), .ref (m 13), .ref (m 14), .ref (m 15), .ref (m 16)])), (m 14, .inl (E.2.2.2.1, 1408, .inr (.inl (pL (cset c2 (22 * n + i) (c2 (22 * n + i) + -v * c2 (22 * r + i)))))))] 1 (22 * n + i) (c2 (22 * n + i) + -v * c2 (22 * r + i)) rfl (by omega) (by omega) (by decide) (rfl) dX8_bringOut_226 rfl ?_
                              refine g_iinc C [(9, .int (zI (y + 1))), (7, .long (zL (v.val : Int))), (6, .int (zI z)), (4, .long (zL ((ivq (brW t r a (22 * r + k))).val : Int))), (0, .ref (m 0)), (1, .int (zI (r : Int))), (2, .int (zI (a : Int))), (3, .int (zI (k : Int)))] dX8_bringOut_227 0 rfl (by decide) rfl ?_
                              refine g_goto C 168 dX8_bringOut_230 (by decide) ?_
                              exact ih_i (y + 1) (i + 1) (cset c2 (22 * n + i) (c2 (22 * n + i) + -v * c2 (22 * r + i))) (by omega) (by omega) (Bi_next (by omega) hb h2 (by rw [Bi_at (by omega) hb h2, Bi_r (by omega) hne hb h2])) (by omega)
                      exact lp_i 65 0 0 c rfl (by omega) Bi_0 (by omega)
                    · refine g_lconst C dX8_bringOut_147 ?_
                      refine g_goto C 163 dX8_bringOut_148 (by decide) ?_
                      refine g_lstore C [(7, .long (zL 0)), (6, .int (zI z)), (4, .long (zL ((ivq (brW t r a (22 * r + k))).val : Int))), (0, .ref (m 0)), (1, .int (zI (r : Int))), (2, .int (zI (a : Int))), (3, .int (zI (k : Int)))] dX8_bringOut_163 (by decide) rfl ?_
                      obtain ⟨v, hv, hv0⟩ : ∃ v : Fq, ((n = r ∧ v = 0) ∨ (n ≠ r ∧ v = (brT t r a k) (22 * n + k))) ∧ (0 : Int) = (v.val : Int) := ⟨0, Or.inl ⟨by omega, rfl⟩, rfl⟩
                      refine g_eq (lv' := [(7, .long (zL (v.val : Int))), (6, .int (zI z)), (4, .long (zL ((ivq (brW t r a (22 * r + k))).val : Int))), (0, .ref (m 0)), (1, .int (zI (r : Int))), (2, .int (zI (a : Int))), (3, .int (zI (k : Int)))]) rfl (by rw [hv0]) rfl ?_
                      refine g_iconst C dX8_bringOut_165 ?_
                      refine g_istore C [(9, .int (zI 0)), (7, .long (zL (v.val : Int))), (6, .int (zI z)), (4, .long (zL ((ivq (brW t r a (22 * r + k))).val : Int))), (0, .ref (m 0)), (1, .int (zI (r : Int))), (2, .int (zI (a : Int))), (3, .int (zI (k : Int)))] dX8_bringOut_166 (by decide) rfl ?_
                      have lp_i : ∀ (n_i : Nat) (y : Int) (i : Nat) (c2 : Po), (y = (i : Int)) → (i ≤ 22) → (Bi (brT t r a k) r n i v c c2) → 22 - i < n_i → G 0 0 [(m 0, .inr (8, [.int (zI kc), .ref (m 1), .ref (m 2), .ref (m 3), .ref (m 4), .ref (m 5), .ref (m 6), .int (zI le), .ref (m 7), .ref (m 8), .ref (m 9), .ref (m 10), .ref (m 11), .ref (m 12), .ref (m 13), .ref (m 14), .ref (m 15), .ref (m 16)])), (m 14, .inl (E.2.2.2.1, 1408, .inr (.inl (pL c2))))] [(9, .int (zI y)), (7, .long (zL (v.val : Int))), (6, .int (zI z)), (4, .long (zL ((ivq (brW t r a (22 * r + k))).val : Int))), (0, .ref (m 0)), (1, .int (zI (r : Int))), (2, .int (zI (a : Int))), (3, .int (zI (k : Int)))] 168 [] := by
                        intro n_i
                        induction n_i with
                        | zero =>
                          intro y i c2 hy hi9 h2 hm_i
                          exact absurd hm_i (by omega)
                        | succ n_i ih_i =>
                          intro y i c2 hy hi9 h2 hm_i
                          refine g_iload C dX8_bringOut_168 0 rfl ?_
                          refine g_bipush C dX8_bringOut_170 rfl ?_
                          refine g_icmp_ge C 233 dX8_bringOut_172 (by decide) (by omega) (by omega) (by omega) (by omega) (fun c_172 => ?_) (fun c_172 => ?_)
                          · have hend : 22 ≤ i ∨ v = 0 := Or.inl (by omega)
                            refine g_iinc C [(6, .int (zI (z + 1))), (9, .int (zI y)), (7, .long (zL (v.val : Int))), (4, .long (zL ((ivq (brW t r a (22 * r + k))).val : Int))), (0, .ref (m 0)), (1, .int (zI (r : Int))), (2, .int (zI (a : Int))), (3, .int (zI (k : Int)))] dX8_bringOut_233 2 rfl (by decide) rfl ?_
                            refine g_goto C 134 dX8_bringOut_236 (by decide) ?_
                            refine g_lsub C [0, 3, 4, 5, 6, 7] rfl ?_
                            exact ih_e (z + 1) (n + 1) c2 (by omega) (by omega) (Be_next (v := v) (by omega) hb h2 hv hend) (by omega)
                          · refine g_lload C dX8_bringOut_175 1 rfl ?_
                            refine g_lconst C dX8_bringOut_177 ?_
                            refine g_lcmp_le C 233 dX8_bringOut_178 dX8_bringOut_179 (by decide) (by have := v.isLt; omega) (by have := v.isLt; omega) (by have := v.isLt; omega) (by have := v.isLt; omega) (fun c_178 => ?_) (fun c_178 => ?_)
                            · have hend : 22 ≤ i ∨ v = 0 := Or.inr (fq0 (by omega))
                              refine g_iinc C [(6, .int (zI (z + 1))), (9, .int (zI y)), (7, .long (zL (v.val : Int))), (4, .long (zL ((ivq (brW t r a (22 * r + k))).val : Int))), (0, .ref (m 0)), (1, .int (zI (r : Int))), (2, .int (zI (a : Int))), (3, .int (zI (k : Int)))] dX8_bringOut_233 2 rfl (by decide) rfl ?_
                              refine g_goto C 134 dX8_bringOut_236 (by decide) ?_
                              refine g_lsub C [0, 3, 4, 5, 6, 7] rfl ?_
                              exact ih_e (z + 1) (n + 1) c2 (by omega) (by omega) (Be_next (v := v) (by omega) hb h2 hv hend) (by omega)
                            · have hne : n ≠ r := by rcases hv with h9 | h9; (rw [h9.2] at c_178; exact absurd c_178 (by decide)); exact h9.1
                              refine g_aload_n C dX8_bringOut_182 4 rfl ?_
                              refine g_get C 0 rfl rfl 15 (by decide) in_X8_bringOut_X8 lk_X8_bringOut_table rfl dX8_bringOut_183 ?_
                              refine g_bipush C dX8_bringOut_186 rfl ?_
                              refine g_iload C dX8_bringOut_188 2 rfl ?_
                              refine g_imul C dX8_bringOut_190 ?_
                              refine g_iload C dX8_bringOut_191 0 rfl ?_
                              refine g_iadd C dX8_bringOut_193 ?_
                              refine g_aload_n C dX8_bringOut_194 4 rfl ?_
                              refine g_get C 0 rfl rfl 15 (by decide) in_X8_bringOut_X8 lk_X8_bringOut_table rfl dX8_bringOut_195 ?_
                              refine g_bipush C dX8_bringOut_198 rfl ?_
                              refine g_iload C dX8_bringOut_200 2 rfl ?_
                              refine g_imul C dX8_bringOut_202 ?_
                              refine g_iload C dX8_bringOut_203 0 rfl ?_
                              refine g_iadd C dX8_bringOut_205 ?_
                              refine g_lald C 1 (22 * n + i) rfl (by omega) (by omega) (by decide) dX8_bringOut_206 ?_
                              refine g_lload C dX8_bringOut_207 1 rfl ?_
                              refine g_aload_n C dX8_bringOut_209 4 rfl ?_
                              refine g_get C 0 rfl rfl 15 (by decide) in_X8_bringOut_X8 lk_X8_bringOut_table rfl dX8_bringOut_210 ?_
                              refine g_bipush C dX8_bringOut_213 rfl ?_
                              refine g_iload_n C dX8_bringOut_215 5 rfl ?_
                              refine g_imul C dX8_bringOut_216 ?_
                              refine g_iload C dX8_bringOut_217 0 rfl ?_
                              refine g_iadd C dX8_bringOut_219 ?_
                              refine g_lald C 1 (22 * r + i) rfl (by omega) (by omega) (by decide) dX8_bringOut_220 ?_
                              refine g_jmul C dX8_bringOut_221 ?_
                              refine g_jsub C dX8_bringOut_222 ?_
                              have h97 := fq_mulb v (c2 (22 * r + i))
                              have h98 := (c2 (22 * n + i)).isLt
                              refine g_callSOl (n := 1) C (c_X8_modulo E l _ (by omega) (by omega)) gX8_bringOut_X8_modulo rfl (by decide +kernel) rfl (by decide) dX8_bringOut_223 rfl (Nat.le_of_ble_eq_true rfl) (fun r_223 h_223 => ?_)
                              obtain ⟨_, rfl, -⟩ := h_223
                              refine g_ltop (zL ((c2 (22 * n + i) + -v * c2 (22 * r + i)).val : Int)) (congrArg (fun u : Fq => zL (u.val : Int)) (by simp only [cF_sub, cF_mul, cF_of]; grind)) ?_
                              refine g_last C [(m 0, .inr (8, [.int (zI kc), .ref (m 1), .ref (m 2), .ref (m 3), .ref (m 4), .ref (m 5), .ref (m 6), .int (zI le), .ref (m 7), .ref (m 8), .ref (m 9), .ref (m 10), .ref (m 11), .ref (m 12), .ref (m 13), .ref (m 14), .ref (m 15), .ref (m 16)])), (m 14, .inl (E.2.2.2.1, 1408, .inr (.inl (pL (cset c2 (22 * n + i) (c2 (22 * n + i) + -v * c2 (22 * r + i)))))))] 1 (22 * n + i) (c2 (22 * n + i) + -v * c2 (22 * r + i)) rfl (by omega) (by omega) (by decide) (rfl) dX8_bringOut_226 rfl ?_
                              refine g_iinc C [(9, .int (zI (y + 1))), (7, .long (zL (v.val : Int))), (6, .int (zI z)), (4, .long (zL ((ivq (brW t r a (22 * r + k))).val : Int))), (0, .ref (m 0)), (1, .int (zI (r : Int))), (2, .int (zI (a : Int))), (3, .int (zI (k : Int)))] dX8_bringOut_227 0 rfl (by decide) rfl ?_
                              refine g_goto C 168 dX8_bringOut_230 (by decide) ?_
                              exact ih_i (y + 1) (i + 1) (cset c2 (22 * n + i) (c2 (22 * n + i) + -v * c2 (22 * r + i))) (by omega) (by omega) (Bi_next (by omega) hb h2 (by rw [Bi_at (by omega) hb h2, Bi_r (by omega) hne hb h2])) (by omega)
                      exact lp_i 65 0 0 c rfl (by omega) Bi_0 (by omega)
              exact lp_e 65 0 0 (brT t r a k) rfl (by omega) Be_0 (by omega)
            · refine g_aload_n C dX8_bringOut_94 2 rfl ?_
              refine g_get C 0 rfl rfl 15 (by decide) in_X8_bringOut_X8 lk_X8_bringOut_table rfl dX8_bringOut_95 ?_
              refine g_bipush C dX8_bringOut_98 rfl ?_
              refine g_iload_n C dX8_bringOut_100 3 rfl ?_
              refine g_imul C dX8_bringOut_101 ?_
              refine g_iload C dX8_bringOut_102 0 rfl ?_
              refine g_iadd C dX8_bringOut_104 ?_
              refine g_aload_n C dX8_bringOut_105 2 rfl ?_
              refine g_get C 0 rfl rfl 15 (by decide) in_X8_bringOut_X8 lk_X8_bringOut_table rfl dX8_bringOut_106 ?_
              refine g_bipush C dX8_bringOut_109 rfl ?_
              refine g_iload_n C dX8_bringOut_111 3 rfl ?_
              refine g_imul C dX8_bringOut_112 ?_
              refine g_iload C dX8_bringOut_113 0 rfl ?_
              refine g_iadd C dX8_bringOut_115 ?_
              refine g_lald C 1 (22 * r + i) rfl (by omega) (by omega) (by decide) dX8_bringOut_116 ?_
              refine g_lload C dX8_bringOut_117 1 rfl ?_
              refine g_jmul C dX8_bringOut_119 ?_
              refine g_ldc2 C 32003 lk_X8_bringOut_l32003 dX8_bringOut_120 ?_
              refine g_lmod C dX8_bringOut_123 (by have := fq_mulb (c (22 * r + i)) (ivq (brW t r a (22 * r + k))); omega) (by have := fq_mulb (c (22 * r + i)) (ivq (brW t r a (22 * r + k))); omega) ?_
              refine g_ltop (zL ((c (22 * r + i) * ivq (brW t r a (22 * r + k))).val : Int)) (congrArg (fun u : Fq => zL (u.val : Int)) (by simp only [cF_mul, cF_of])) ?_
              refine g_last C [(m 0, .inr (8, [.int (zI kc), .ref (m 1), .ref (m 2), .ref (m 3), .ref (m 4), .ref (m 5), .ref (m 6), .int (zI le), .ref (m 7), .ref (m 8), .ref (m 9), .ref (m 10), .ref (m 11), .ref (m 12), .ref (m 13), .ref (m 14), .ref (m 15), .ref (m 16)])), (m 14, .inl (E.2.2.2.1, 1408, .inr (.inl (pL (cset c (22 * r + i) (c (22 * r + i) * ivq (brW t r a (22 * r + k))))))))] 1 (22 * r + i) (c (22 * r + i) * ivq (brW t r a (22 * r + k))) rfl (by omega) (by omega) (by decide) (rfl) dX8_bringOut_124 rfl ?_
              refine g_iinc C [(6, .int (zI (y + 1))), (4, .long (zL ((ivq (brW t r a (22 * r + k))).val : Int))), (0, .ref (m 0)), (1, .int (zI (r : Int))), (2, .int (zI (a : Int))), (3, .int (zI (k : Int)))] dX8_bringOut_125 0 rfl (by decide) rfl ?_
              refine g_goto C 87 dX8_bringOut_128 (by decide) ?_
              exact ih_s (y + 1) (i + 1) (cset c (22 * r + i) (c (22 * r + i) * ivq (brW t r a (22 * r + k)))) (by omega) (by omega) (bs_next (by omega) hc (by rw [bs_at (by omega) hc])) (by omega)
        exact lp_s 65 0 0 (brW t r a) rfl (by omega) (fun j => by rw [if_neg (by omega)]) (by omega)
      · refine g_aload_n C dX8_bringOut_10 1 rfl ?_
        refine g_get C 0 rfl rfl 15 (by decide) in_X8_bringOut_X8 lk_X8_bringOut_table rfl dX8_bringOut_11 ?_
        refine g_bipush C dX8_bringOut_14 rfl ?_
        refine g_iload_n C dX8_bringOut_16 3 rfl ?_
        refine g_imul C dX8_bringOut_17 ?_
        refine g_iload C dX8_bringOut_18 0 rfl ?_
        refine g_iadd C dX8_bringOut_20 ?_
        refine g_lald C 1 (22 * a + i) rfl (by omega) (by omega) (by decide) dX8_bringOut_21 ?_
        refine g_lstore C [(5, .long (zL ((c (22 * a + i)).val : Int))), (4, .int (zI y)), (0, .ref (m 0)), (1, .int (zI (r : Int))), (2, .int (zI (a : Int))), (3, .int (zI (k : Int)))] dX8_bringOut_22 (by decide) rfl ?_
        refine g_aload_n C dX8_bringOut_24 2 rfl ?_
        refine g_get C 0 rfl rfl 15 (by decide) in_X8_bringOut_X8 lk_X8_bringOut_table rfl dX8_bringOut_25 ?_
        refine g_bipush C dX8_bringOut_28 rfl ?_
        refine g_iload_n C dX8_bringOut_30 4 rfl ?_
        refine g_imul C dX8_bringOut_31 ?_
        refine g_iload C dX8_bringOut_32 1 rfl ?_
        refine g_iadd C dX8_bringOut_34 ?_
        refine g_aload_n C dX8_bringOut_35 2 rfl ?_
        refine g_get C 0 rfl rfl 15 (by decide) in_X8_bringOut_X8 lk_X8_bringOut_table rfl dX8_bringOut_36 ?_
        refine g_bipush C dX8_bringOut_39 rfl ?_
        refine g_iload_n C dX8_bringOut_41 3 rfl ?_
        refine g_imul C dX8_bringOut_42 ?_
        refine g_iload C dX8_bringOut_43 1 rfl ?_
        refine g_iadd C dX8_bringOut_45 ?_
        refine g_lald C 1 (22 * r + i) rfl (by omega) (by omega) (by decide) dX8_bringOut_46 ?_
        refine g_last C [(m 0, .inr (8, [.int (zI kc), .ref (m 1), .ref (m 2), .ref (m 3), .ref (m 4), .ref (m 5), .ref (m 6), .int (zI le), .ref (m 7), .ref (m 8), .ref (m 9), .ref (m 10), .ref (m 11), .ref (m 12), .ref (m 13), .ref (m 14), .ref (m 15), .ref (m 16)])), (m 14, .inl (E.2.2.2.1, 1408, .inr (.inl (pL (cset c (22 * a + i) (c (22 * r + i)))))))] 1 (22 * a + i) (c (22 * r + i)) rfl (by omega) (by omega) (by decide) (rfl) dX8_bringOut_47 rfl ?_
        refine g_aload_n C dX8_bringOut_48 2 rfl ?_
        refine g_get C 0 rfl rfl 15 (by decide) in_X8_bringOut_X8 lk_X8_bringOut_table rfl dX8_bringOut_49 ?_
        refine g_bipush C dX8_bringOut_52 rfl ?_
        refine g_iload_n C dX8_bringOut_54 3 rfl ?_
        refine g_imul C dX8_bringOut_55 ?_
        refine g_iload C dX8_bringOut_56 1 rfl ?_
        refine g_iadd C dX8_bringOut_58 ?_
        refine g_lload C dX8_bringOut_59 0 rfl ?_
        refine g_last C [(m 0, .inr (8, [.int (zI kc), .ref (m 1), .ref (m 2), .ref (m 3), .ref (m 4), .ref (m 5), .ref (m 6), .int (zI le), .ref (m 7), .ref (m 8), .ref (m 9), .ref (m 10), .ref (m 11), .ref (m 12), .ref (m 13), .ref (m 14), .ref (m 15), .ref (m 16)])), (m 14, .inl (E.2.2.2.1, 1408, .inr (.inl (pL (cset (cset c (22 * a + i) (c (22 * r + i))) (22 * r + i) (c (22 * a + i)))))))] 1 (22 * r + i) (c (22 * a + i)) rfl (by omega) (by omega) (by decide) (rfl) dX8_bringOut_61 rfl ?_
        refine g_iinc C [(4, .int (zI (y + 1))), (5, .long (zL ((c (22 * a + i)).val : Int))), (0, .ref (m 0)), (1, .int (zI (r : Int))), (2, .int (zI (a : Int))), (3, .int (zI (k : Int)))] dX8_bringOut_62 1 rfl (by decide) rfl ?_
        refine g_goto C 3 dX8_bringOut_65 (by decide) ?_
        refine g_lsub C [0, 2, 3, 4, 5] rfl ?_
        exact ih_w (y + 1) (i + 1) (cset (cset c (22 * a + i) (c (22 * r + i))) (22 * r + i) (c (22 * a + i))) (by omega) (by omega) (bw_next (by omega) hc) (by omega)
  exact lp_w 65 0 0 t rfl (by omega) (fun j => by rw [if_neg (by omega)]) (by omega)
