/-! sums, products, shifts, division, values: as both programs work them out -/
def sm (f : Nat → Fq) : Nat → Fq
  | 0 => 0
  | n + 1 => sm f n + f n
theorem sm_congr {f g : Nat → Fq} : ∀ {n : Nat}, (∀ i, i < n → f i = g i) → sm f n = sm g n
  | 0, _ => rfl
  | n + 1, h => by
    show sm f n + f n = sm g n + g n
    rw [sm_congr (fun i hi => h i (by omega)), h n (by omega)]
theorem sm_zero {f : Nat → Fq} : ∀ {n : Nat}, (∀ i, i < n → f i = 0) → sm f n = 0
  | 0, _ => rfl
  | n + 1, h => by
    show sm f n + f n = 0
    rw [sm_zero (fun i hi => h i (by omega)), h n (by omega)]
    rfl
theorem sm_more {f : Nat → Fq} {n : Nat} : ∀ {m : Nat}, n ≤ m → (∀ i, n ≤ i → i < m → f i = 0) → sm f m = sm f n
  | 0, h, _ => by rw [show n = 0 by omega]
  | m + 1, h, hz => by
    by_cases e : n = m + 1
    · rw [e]
    · show sm f m + f m = sm f n
      rw [sm_more (by omega) (fun i h1 h2 => hz i h1 (by omega)), hz m (by omega) (by omega)]
      grind
/-- the product -/
def conv (a b : Po) : Po := fun j => sm (fun i => a (j - i) * b i) (j + 1)
theorem conv_hi {a b : Po} {x y : Int} (ha : ∀ j : Nat, x < (j : Int) → a j = 0) (hb : ∀ j : Nat, y < (j : Int) → b j = 0) {j : Nat} (h : x + y < (j : Int)) : conv a b j = 0 := by
  refine sm_zero (fun i hi => ?_)
  by_cases g : y < (i : Int)
  · rw [hb i g]; grind
  · rw [ha (j - i) (by omega)]; grind
/-- one row of the shift, from s + n - 1 down to s -/
def mi (d : Fq) (s : Nat) : Nat → Po → Po
  | 0, a => a
  | n + 1, a => mi d s n (cset a (s + n) (a (s + n) + d * a (s + n + 1)))
def mo (d : Fq) (H : Nat) : Nat → Nat → Po → Po
  | _, 0, a => a
  | s, m + 1, a => mo d H (s + 1) m (mi d s (H - s) a)
/-- the polynomial with n + d in place of n -/
def mvp (a : Po) (d : Fq) : Po := mo d (hi a).toNat 0 (hi a).toNat a
theorem mi_keep (d : Fq) (s : Nat) : ∀ (n : Nat) (a : Po) (j : Nat), s + n ≤ j → mi d s n a j = a j
  | 0, a, j, _ => rfl
  | n + 1, a, j, h => by
    show mi d s n _ j = a j
    rw [mi_keep d s n _ j (by omega), cset_ne (by omega)]
theorem mo_keep (d : Fq) (H : Nat) : ∀ (m s : Nat) (a : Po) (j : Nat), s + m ≤ H → H ≤ j → mo d H s m a j = a j
  | 0, s, a, j, _, _ => rfl
  | m + 1, s, a, j, h1, h2 => by
    show mo d H (s + 1) m _ j = a j
    rw [mo_keep d H m (s + 1) _ j (by omega) h2, mi_keep d s _ _ j (by omega)]
theorem mvp_keep (a : Po) (d : Fq) {j : Nat} (h : (hi a).toNat ≤ j) : mvp a d j = a j := mo_keep d _ _ 0 a j (by omega) h
theorem hi_keep {a c : Po} (hS : Sm a) (h : ∀ j : Nat, (hi a).toNat ≤ j → c j = a j) : hi c = hi a := by
  have hl := hi_lo a
  by_cases g : 0 ≤ hi a
  · refine hi_eq hl.1 hl.2 (fun _ => ?_) (fun j hj => ?_)
    · rw [h _ (by omega)]; exact hi_ne g
    · rw [h j (by omega)]; exact hi_zero hS hj
  · refine hi_eq hl.1 hl.2 (fun q => absurd q g) (fun j hj => ?_)
    rw [h j (by omega)]; exact hi_zero hS hj
theorem mvp_hi {a : Po} (hS : Sm a) (d : Fq) : hi (mvp a d) = hi a := hi_keep hS (fun _ h => mvp_keep a d h)
theorem mvp_Sm {a : Po} (hS : Sm a) (d : Fq) : Sm (mvp a d) := fun j h => by
  have hl := hi_lo a
  rw [mvp_keep a d (by omega)]; exact hS j h
/-- division: rest and quotient, n steps left, the divisor b of degree hb with u through its highest number -/
def dv (b : Po) (u : Fq) (hb : Nat) : Nat → Po → Po → Po × Po
  | 0, a, g => (a, g)
  | n + 1, a, g => dv b u hb n (am a (-(a (hb + n) * u)) b n) (cset g n (a (hb + n) * u))
/-- the power 32001 by squares -/
def ivs : Nat → Nat → Fq → Fq → Fq
  | 0, _, r, _ => r
  | f + 1, e, r, s => if e = 0 then r else ivs f (e / 2) (if e % 2 = 1 then r * s else r) (s * s)
theorem ivs_1 {f e : Nat} {r s : Fq} (h : e ≠ 0) (h2 : e % 2 = 1) : ivs (f + 1) e r s = ivs f (e / 2) (r * s) (s * s) := by rw [ivs, if_neg h, if_pos h2]
theorem ivs_0 {f e : Nat} {r s : Fq} (h : e ≠ 0) (h2 : ¬ e % 2 = 1) : ivs (f + 1) e r s = ivs f (e / 2) r (s * s) := by rw [ivs, if_neg h, if_neg h2]
def ivq (x : Fq) : Fq := ivs 16 32001 1 x
def dvN (a b : Po) : Nat := (hi a - hi b + 1).toNat
def dvs (a b : Po) : Po × Po := dv b (ivq (nm b (hi b))) (hi b).toNat (dvN a b) a (con 0)
def rem (a b : Po) : Po := (dvs a b).1
def quo (a b : Po) : Po := (dvs a b).2
theorem am_0 (a b : Po) (n : Nat) : am a (-(0 : Fq)) b n = a := by
  funext j; unfold am; split
  · grind
  · rfl
theorem am_Sm {a b : Po} {f : Fq} {k : Nat} (hS : Sm a) (hb : ∀ j : Nat, 33 ≤ j + k → b j = 0) : Sm (am a f b k) := fun j h => by
  unfold am; split
  · rw [hS j h, hb (j - k) (by omega)]; grind
  · exact hS j h
theorem cset_0 {g : Po} {n : Nat} (h : g n = 0) : cset g n 0 = g := by
  funext j; unfold cset; split
  · rename_i e; rw [e, h]
  · rfl
/-- the value, from the power n - 1 down -/
def hv (a : Po) (x : Fq) : Nat → Fq → Fq
  | 0, r => r
  | n + 1, r => hv a x n (r * x + a n)
def val (a : Po) (x : Fq) : Fq := hv a x (hi a + 1).toNat 0
theorem fq_neg {x : Fq} (h : x ≠ 0) : (((-x : Fq)).val : Int) = 32003 - (x.val : Int) := by
  have h1 : ((-x : Fq)).val = (32003 - x.val) % 32003 := Fin.val_neg' x
  have h2 := x.isLt
  have h3 : x.val ≠ 0 := fun e => h (Fin.ext e)
  omega
theorem fq_neg0 : ((-(0 : Fq))).val = 0 := by decide
