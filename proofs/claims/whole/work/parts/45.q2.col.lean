/-! the columns: as the class grows them, and as the reference shifts them -/
theorem conv_mono (b : Po) (k j : Nat) : conv b (mono k) j = if k ≤ j then b (j - k) else 0 := by
  have hz : ∀ i : Nat, i ≠ k → mono k i = 0 := fun i h => by unfold mono; rw [cset_ne h]; unfold con; split <;> rfl
  have h1 : mono k k = 1 := by unfold mono; exact cset_eq
  unfold conv
  split
  · rename_i g
    rw [sm_one (k := k) (by omega) (fun i _ h => by rw [hz i h]; grind), h1]; grind
  · rename_i g
    exact sm_zero (fun i hi => by rw [hz i (by omega)]; grind)
theorem pA_0 : pA 0 = 1 := by decide
theorem pA_1 : pA 1 = 1 := by decide
theorem pA_2 (i : Nat) : pA (i + 2) = 0 := by unfold pA; rw [cset_ne (by omega), cset_ne (by omega)]; rfl
theorem conv_pA (x : Po) (j : Nat) : conv x pA j = x j + (if j = 0 then 0 else x (j - 1)) := by
  unfold conv
  cases j with
  | zero =>
    show (0 : Fq) + x (0 - 0) * pA 0 = _
    rw [pA_0, if_pos rfl]; grind
  | succ n =>
    rw [sm_shift, sm_shift, if_neg (by omega)]
    show x (n + 1 - 0) * pA 0 + (x (n + 1 - (0 + 1)) * pA (0 + 1) + sm (fun i => x (n + 1 - (i + 1 + 1)) * pA (i + 1 + 1)) n) = _
    rw [sm_zero (fun i _ => by rw [pA_2]; grind), pA_0, show (0 + 1 : Nat) = 1 from rfl, pA_1, show n + 1 - 0 = n + 1 by omega, show n + 1 - 1 = n by omega]
    grind
theorem conv_pa2 (a x : Po) : conv a (conv x pA) = conv (conv a x) pA := by
  funext j
  rw [conv_pA]
  have e1 : conv a (conv x pA) j = sm (fun i => a (j - i) * x i) (j + 1) + sm (fun i => a (j - i) * (if i = 0 then 0 else x (i - 1))) (j + 1) := by
    rw [← sm_addf]
    exact sm_congr (fun i _ => by rw [conv_pA]; grind)
  rw [e1, sm_shift (fun i => a (j - i) * (if i = 0 then 0 else x (i - 1)))]
  show conv a x j + (a (j - 0) * (if 0 = 0 then 0 else x (0 - 1)) + sm (fun i => a (j - (i + 1)) * (if i + 1 = 0 then 0 else x (i + 1 - 1))) j) = _
  rw [if_pos rfl]
  cases j with
  | zero => rw [if_pos rfl]; show _ + (_ * 0 + (0 : Fq)) = _; grind
  | succ n =>
    rw [if_neg (by omega), show n + 1 - 1 = n by omega]
    have e2 : sm (fun i => a (n + 1 - (i + 1)) * (if i + 1 = 0 then 0 else x (i + 1 - 1))) (n + 1) = conv a x n := sm_congr (fun i _ => by rw [if_neg (by omega), show n + 1 - (i + 1) = n - i by omega, show i + 1 - 1 = i by omega])
    rw [e2]; grind
/-- the numbers of (n + 1)^k, by sums of sums -/
def En : Nat → Nat → Fq
  | 0 => fun r => if r = 0 then 1 else 0
  | s + 1 => fun r => sm (En s) (r + 1)
theorem En_0 : ∀ s : Nat, En s 0 = 1
  | 0 => rfl
  | s + 1 => by show (0 : Fq) + En s 0 = 1; rw [En_0 s]; decide
theorem En_s (s r : Nat) : En (s + 1) (r + 1) = En (s + 1) r + En s (r + 1) := rfl
theorem mi_En (k s : Nat) : ∀ (n : Nat) (a : Po), s + n ≤ k → (∀ j : Nat, s ≤ j → j < s + n → a j = En s (k - j)) → (∀ j : Nat, s + n ≤ j → j ≤ k → a j = En (s + 1) (k - j)) → (∀ j : Nat, s ≤ j → j ≤ k → mi 1 s n a j = En (s + 1) (k - j)) ∧ ∀ j : Nat, j < s → mi 1 s n a j = a j
  | 0, a, h, h1, h2 => ⟨fun j hj hk => h2 j (by omega) hk, fun j _ => rfl⟩
  | n + 1, a, h, h1, h2 => by
    have ih := mi_En k s n (cset a (s + n) (a (s + n) + 1 * a (s + n + 1))) (by omega) (fun j hj hk => by rw [cset_ne (by omega)]; exact h1 j hj (by omega)) (fun j hj hk => by
      by_cases g : j = s + n
      · rw [g, cset_eq, h1 (s + n) (by omega) (by omega), h2 (s + n + 1) (by omega) (by omega), show k - (s + n) = (k - (s + n + 1)) + 1 by omega, En_s]; grind
      · rw [cset_ne g]; exact h2 j (by omega) hk)
    exact ⟨ih.1, fun j hj => by have := ih.2 j hj; rw [cset_ne (by omega)] at this; exact this⟩
theorem mo_En (k : Nat) : ∀ (m s : Nat) (a : Po), s + m = k → (∀ j : Nat, s ≤ j → j ≤ k → a j = En s (k - j)) → (∀ j : Nat, j < s → a j = En (j + 1) (k - j)) → ∀ j : Nat, j ≤ k → mo 1 k s m a j = En (j + 1) (k - j)
  | 0, s, a, h, h1, h2, j, hj => by
    show a j = _
    by_cases g : j < s
    · exact h2 j g
    · rw [h1 j (by omega) hj, show k - j = 0 by omega, En_0, En_0]
  | m + 1, s, a, h, h1, h2, j, hj => by
    show mo 1 k (s + 1) m (mi 1 s (k - s) a) j = _
    have hm := mi_En k s (k - s) a (by omega) (fun j9 h9 h8 => h1 j9 h9 (by omega)) (fun j9 h9 h8 => by rw [h1 j9 (by omega) h8, show k - j9 = 0 by omega, En_0, En_0])
    exact mo_En k m (s + 1) _ (by omega) (fun j9 h9 h8 => hm.1 j9 (by omega) h8) (fun j9 h9 => by
      by_cases g : j9 = s
      · rw [g]; exact hm.1 s (by omega) (by omega)
      · rw [hm.2 j9 (by omega)]; exact h2 j9 (by omega)) j hj
theorem mv_En {k : Nat} (hk : k < 33) (j : Nat) : mvp (mono k) 1 j = if j ≤ k then En (j + 1) (k - j) else 0 := by
  have hz : ∀ i : Nat, i ≠ k → mono k i = 0 := fun i h => by unfold mono; rw [cset_ne h]; unfold con; split <;> rfl
  have h1 : mono k k = 1 := by unfold mono; exact cset_eq
  have hh : (hi (mono k)).toNat = k := by rw [mono_hi hk]; exact Int.toNat_natCast k
  split
  · rename_i g
    unfold mvp
    rw [hh]
    exact mo_En k k 0 (mono k) (by omega) (fun j9 _ h8 => by
      by_cases e : j9 = k
      · rw [e, h1, show k - k = 0 by omega]; rfl
      · rw [hz j9 e]; show _ = if k - j9 = 0 then 1 else 0; rw [if_neg (by omega)]) (fun j9 h9 => absurd h9 (by omega)) j g
  · rename_i g
    rw [mvp_keep _ _ (by omega)]
    exact hz j (by omega)
theorem mv_next {k : Nat} (hk : k + 1 < 33) : mvp (mono (k + 1)) 1 = conv (mvp (mono k) 1) pA := by
  funext j
  rw [conv_pA, mv_En hk, mv_En (show k < 33 by omega)]
  by_cases g0 : j = 0
  · rw [g0, if_pos (by omega), if_pos (by omega), if_pos rfl]
    show En 1 k + En 0 (k + 1) = _
    rw [show En 0 (k + 1) = 0 from rfl]
    rfl
  · rw [if_neg g0, mv_En (show k < 33 by omega)]
    by_cases g1 : j ≤ k
    · rw [if_pos g1, if_pos (by omega), if_pos (by omega), show k + 1 - j = (k - j) + 1 by omega, En_s, show j - 1 + 1 = j by omega, show k - (j - 1) = (k - j) + 1 by omega]
    · by_cases g2 : j = k + 1
      · rw [if_pos (by omega), if_neg g1, if_pos (by omega), g2, show k + 1 - (k + 1) = 0 by omega, show k - (k + 1 - 1) = 0 by omega, En_0, En_0]; decide
      · rw [if_neg (by omega), if_neg g1, if_neg (by omega)]; decide
/-- the top, grown k times -/
def pw (a : Po) : Nat → Po
  | 0 => a
  | k + 1 => conv (pw a k) pA
theorem pw_conv (a : Po) : ∀ k : Nat, k < 33 → pw a k = conv a (mvp (mono k) 1)
  | 0, _ => by
    have e : mvp (mono 0) 1 = mono 0 := by unfold mvp; rw [mono_hi (by omega)]; rfl
    rw [e]
    funext j
    rw [conv_mono, if_pos (by omega)]; rfl
  | k + 1, h => by
    show conv (pw a k) pA = _
    rw [pw_conv a k (by omega), mv_next h, conv_pa2]
theorem col_eq (a b : Po) {k : Nat} (hk : k < 33) : am (pw a k) 32002 (mvp b 32002) k = Tc a b k := by
  funext j
  unfold am Tc
  rw [pw_conv a k hk, conv_mono]
  have e : (32002 : Fq) = -1 := by decide
  split
  · rw [e]; grind
  · grind
