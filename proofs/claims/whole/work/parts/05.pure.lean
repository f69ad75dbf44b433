/-! polynomials as rows of numbers -/
abbrev Po : Type := Nat → Fq
def Sm (a : Po) : Prop := ∀ j : Nat, 33 ≤ j → a j = 0
def hiN (a : Po) : Nat → Int
  | 0 => -1
  | n + 1 => if a n = 0 then hiN a n else (n : Int)
def hi (a : Po) : Int := hiN a 33
theorem hiN_lo (a : Po) : ∀ n : Nat, -1 ≤ hiN a n ∧ hiN a n < (n : Int)
  | 0 => by simp [hiN]
  | n + 1 => by
    have := hiN_lo a n
    unfold hiN
    split <;> omega
theorem hiN_zero {a : Po} : ∀ {n j : Nat}, hiN a n < (j : Int) → j < n → a j = 0
  | 0, j, _, hj => absurd hj (Nat.not_lt_zero j)
  | n + 1, j, h, hj => by
    unfold hiN at h
    split at h
    · rename_i h0
      by_cases e : j = n
      · rw [e]; exact h0
      · exact hiN_zero h (by omega)
    · omega
theorem hiN_ne {a : Po} : ∀ {n : Nat}, 0 ≤ hiN a n → a (hiN a n).toNat ≠ 0
  | 0, h => by simp [hiN] at h
  | n + 1, h => by
    unfold hiN at h ⊢
    split
    · rename_i h0
      rw [if_pos h0] at h
      exact hiN_ne h
    · rename_i h0
      simpa using h0
theorem hiN_eq {a : Po} {n : Nat} {x : Int} (h1 : -1 ≤ x) (h2 : x < (n : Int)) (h3 : 0 ≤ x → a x.toNat ≠ 0) (h4 : ∀ j : Nat, x < (j : Int) → j < n → a j = 0) : hiN a n = x := by
  have hl := hiN_lo a n
  by_cases g : hiN a n < x
  · exact absurd (hiN_zero (a := a) (n := n) (j := x.toNat) (by omega) (by omega)) (h3 (by omega))
  · by_cases g2 : x < hiN a n
    · exact absurd (h4 (hiN a n).toNat (by omega) (by omega)) (hiN_ne (by omega))
    · omega
theorem hi_lo (a : Po) : -1 ≤ hi a ∧ hi a < 33 := by
  have := hiN_lo a 33
  unfold hi
  omega
theorem hi_zero {a : Po} (hS : Sm a) {j : Nat} (h : hi a < (j : Int)) : a j = 0 := by
  by_cases g : j < 33
  · exact hiN_zero h g
  · exact hS j (by omega)
theorem hi_ne {a : Po} (h : 0 ≤ hi a) : a (hi a).toNat ≠ 0 := hiN_ne h
theorem hi_eq {a : Po} {x : Int} (h1 : -1 ≤ x) (h2 : x < 33) (h3 : 0 ≤ x → a x.toNat ≠ 0) (h4 : ∀ j : Nat, x < (j : Int) → a j = 0) : hi a = x :=
  hiN_eq h1 (by omega) h3 (fun j hj _ => h4 j hj)
theorem hi_ext {a b : Po} (h : ∀ j : Nat, j < 33 → a j = b j) : hi a = hi b := by
  have hb := hi_lo b
  refine hiN_eq hb.1 (by omega) (fun g => ?_) (fun j hj hj2 => ?_)
  · rw [h _ (by omega)]; exact hi_ne g
  · rw [h j hj2]; exact hiN_zero hj hj2
/-- the number at a power; 0 below the powers -/
def nm (a : Po) (p : Int) : Fq := if p < 0 then 0 else a p.toNat
theorem nm_neg {a : Po} {p : Int} (h : p < 0) : nm a p = 0 := if_pos h
theorem nm_pos {a : Po} {p : Int} (h : 0 ≤ p) : nm a p = a p.toNat := if_neg (by omega)
theorem nm_nat (a : Po) (k : Nat) : nm a (k : Int) = a k := by rw [nm_pos (by omega)]; rfl
theorem nm_big {a : Po} {p : Int} (hS : Sm a) (h : 33 ≤ p) : nm a p = 0 := by rw [nm_pos (by omega)]; exact hS _ (by omega)
def con (v : Fq) : Po := fun j => if j = 0 then v else 0
def sc (a : Po) (f : Fq) : Po := fun j => a j * f
def am (a : Po) (f : Fq) (b : Po) (k : Nat) : Po := fun j => if k ≤ j then a j + f * b (j - k) else a j
theorem Sm_con (v : Fq) : Sm (con v) := fun j h => if_neg (by omega)
theorem Sm_set {a : Po} (hS : Sm a) {k : Nat} (hk : k < 33) (v : Fq) : Sm (cset a k v) := fun j h => by
  unfold cset
  rw [if_neg (by omega)]
  exact hS j h
theorem cset_ne {α : Type} {f : Nat → α} {k j : Nat} {v : α} (h : j ≠ k) : cset f k v j = f j := if_neg h
theorem cset_eq {α : Type} {f : Nat → α} {k : Nat} {v : α} : cset f k v k = v := if_pos rfl
theorem fq0 {x : Fq} (h : (x.val : Int) = 0) : x = 0 := fq_ext (by rw [h]; rfl)
theorem fqn {x : Fq} (h : (x.val : Int) ≠ 0) : x ≠ 0 := fun e => h (by rw [e]; rfl)
theorem hi_con (v : Fq) : hi (con v) = if v = 0 then -1 else 0 := by
  split
  · rename_i h
    exact hi_eq (by omega) (by omega) (fun g => absurd g (by omega)) (fun j _ => by unfold con; split <;> first | exact h | rfl)
  · rename_i h
    exact hi_eq (by omega) (by omega) (fun _ => h) (fun j g => if_neg (by omega))
/-- an object Polynomial and its row -/
abbrev cP (h q : Nat) (x : Int) : Nat × va_E := (h, .inr (4, [.ref q, .int (zI x)]))
abbrev aP (E : ev) (q : Nat) (a : Po) : Nat × va_E := (q, .inl (E.2.2.1, 33, .inl (pv a)))
abbrev aJ (E : ev) (q : Nat) (a : Po) : Nat × va_E := (q, .inl (E.2.2.2.1, 64, .inr (.inl (pL a))))
