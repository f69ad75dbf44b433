/-! the base: numbers modulo 32003, ints as whole numbers, the judgement of a method's walk -/
abbrev Fq : Type := Fin 32003
def zI (z : Int) : Int32 := Int32.ofInt z
def zL (z : Int) : Int64 := Int64.ofInt z
theorem zI_add (a b : Int) : zI a + zI b = zI (a + b) := (Int32.ofInt_add a b).symm
theorem zI_sub (a b : Int) : zI a - zI b = zI (a - b) := (Int32.ofInt_sub a b).symm
theorem zI_mul (a b : Int) : zI a * zI b = zI (a * b) := (Int32.ofInt_mul a b).symm
theorem zI_toInt {z : Int} (h1 : -2147483648 ≤ z) (h2 : z < 2147483648) : (zI z).toInt = z := Int32.toInt_ofInt_of_le (by omega) (by omega)
theorem zI_of (x : Int32) : zI x.toInt = x := Int32.ofInt_toInt x
theorem zI_rng (x : Int32) : -2147483648 ≤ x.toInt ∧ x.toInt < 2147483648 := ⟨by have := Int32.le_toInt x; omega, by have := Int32.toInt_lt x; omega⟩
theorem zI_nat (n : Nat) : zI (n : Int) = nI n := Int32.ofInt_eq_ofNat
theorem zI_cl {k : Nat} (h : k < 2147483648) : (zI (k : Int)).toNatClampNeg = k := by rw [zI_nat]; exact nI_clamp h
theorem zI_in {k n : Nat} (h : k < n) (hn : n < 2147483648) : vp_in (zI (k : Int)) n := by rw [zI_nat]; exact vp_in_nI h hn
theorem zI_le {a b : Int} (a1 : -2147483648 ≤ a) (a2 : a < 2147483648) (b1 : -2147483648 ≤ b) (b2 : b < 2147483648) : zI a ≤ zI b ↔ a ≤ b := by
  rw [Int32.le_iff_toInt_le, zI_toInt a1 a2, zI_toInt b1 b2]
theorem zI_lt {a b : Int} (a1 : -2147483648 ≤ a) (a2 : a < 2147483648) (b1 : -2147483648 ≤ b) (b2 : b < 2147483648) : zI a < zI b ↔ a < b := by
  rw [Int32.lt_iff_toInt_lt, zI_toInt a1 a2, zI_toInt b1 b2]
theorem zI_eq {a b : Int} (a1 : -2147483648 ≤ a) (a2 : a < 2147483648) (b1 : -2147483648 ≤ b) (b2 : b < 2147483648) : zI a = zI b ↔ a = b := by
  rw [← Int32.toInt_inj, zI_toInt a1 a2, zI_toInt b1 b2]
theorem zI_0 : zI 0 = 0 := rfl
theorem zI_rem {a b : Int} (a1 : 0 ≤ a) (a2 : a < 2147483648) (b1 : 0 < b) (b2 : b < 2147483648) : zI a - zI a / zI b * zI b = zI (a % b) := by
  obtain ⟨n, rfl⟩ := Int.eq_ofNat_of_zero_le a1
  obtain ⟨d, rfl⟩ := Int.eq_ofNat_of_zero_le (Int.le_of_lt b1)
  have h := pk_rem (a := n) (d := d) (by omega) (by omega) (by omega)
  rw [show zI ((n : Int) % (d : Int)) = nI (n % d) from by rw [← Int.natCast_emod]; exact zI_nat _]
  rw [show zI (n : Int) = nI n from zI_nat n, show zI (d : Int) = nI d from zI_nat d]
  exact h
theorem zL_add (a b : Int) : zL a + zL b = zL (a + b) := (Int64.ofInt_add a b).symm
theorem zL_sub (a b : Int) : zL a - zL b = zL (a - b) := (Int64.ofInt_sub a b).symm
theorem zL_mul (a b : Int) : zL a * zL b = zL (a * b) := (Int64.ofInt_mul a b).symm
theorem zL_toInt {z : Int} (h1 : -9223372036854775808 ≤ z) (h2 : z < 9223372036854775808) : (zL z).toInt = z := Int64.toInt_ofInt_of_le (by omega) (by omega)
theorem zL_of (x : Int64) : zL x.toInt = x := Int64.ofInt_toInt x
theorem zL_rng (x : Int64) : -9223372036854775808 ≤ x.toInt ∧ x.toInt < 9223372036854775808 := ⟨by have := Int64.le_toInt x; omega, by have := Int64.toInt_lt x; omega⟩
theorem zL_le {a b : Int} (a1 : -9223372036854775808 ≤ a) (a2 : a < 9223372036854775808) (b1 : -9223372036854775808 ≤ b) (b2 : b < 9223372036854775808) : zL a ≤ zL b ↔ a ≤ b := by
  rw [Int64.le_iff_toInt_le, zL_toInt a1 a2, zL_toInt b1 b2]
theorem zL_lt {a b : Int} (a1 : -9223372036854775808 ≤ a) (a2 : a < 9223372036854775808) (b1 : -9223372036854775808 ≤ b) (b2 : b < 9223372036854775808) : zL a < zL b ↔ a < b := by
  rw [Int64.lt_iff_toInt_lt, zL_toInt a1 a2, zL_toInt b1 b2]
theorem zL_eq {a b : Int} (a1 : -9223372036854775808 ≤ a) (a2 : a < 9223372036854775808) (b1 : -9223372036854775808 ≤ b) (b2 : b < 9223372036854775808) : zL a = zL b ↔ a = b := by
  rw [← Int64.toInt_inj, zL_toInt a1 a2, zL_toInt b1 b2]
theorem zL_rem {a b : Int} (a1 : -9223372036854775808 ≤ a) (a2 : a < 9223372036854775808) (b1 : 0 < b) (b2 : b < 9223372036854775808) : zL a - zL a / zL b * zL b = zL (a.tmod b) := by
  have h : zL (a.tdiv b) = zL a / zL b := Int64.ofInt_tdiv (by rw [show Int64.minValue.toInt = -9223372036854775808 from rfl]; omega) (by rw [show Int64.maxValue.toInt = 9223372036854775807 from rfl]; omega) (by rw [show Int64.minValue.toInt = -9223372036854775808 from rfl]; omega) (by rw [show Int64.maxValue.toInt = 9223372036854775807 from rfl]; omega)
  rw [← h, zL_mul, zL_sub, Int.tmod_def, Int.mul_comm]
theorem zI_zL {z : Int} (h1 : -2147483648 ≤ z) (h2 : z < 2147483648) : (zI z).toInt64 = zL z := Int32.toInt64_ofInt (by rw [show Int32.minValue.toInt = -2147483648 from rfl]; omega) (by rw [show Int32.maxValue.toInt = 2147483647 from rfl]; omega)
theorem zL_zI (z : Int) : (zL z).toInt32 = zI z := Int64.toInt32_ofInt
/-! numbers modulo 32003 -/
def cF (z : Int) : Fq := Fin.ofNat 32003 (z % 32003).toNat
theorem cF_val (z : Int) : ((cF z).val : Int) = z % 32003 := by
  show (((z % 32003).toNat % 32003 : Nat) : Int) = z % 32003
  omega
theorem fq_ext {x y : Fq} (h : (x.val : Int) = (y.val : Int)) : x = y := Fin.ext (by omega)
theorem fq_lt (x : Fq) : (x.val : Int) < 32003 := by have := x.isLt; omega
theorem fq_add (x y : Fq) : (((x + y : Fq)).val : Int) = ((x.val : Int) + (y.val : Int)) % 32003 := by
  rw [Fin.val_add]; omega
theorem fq_mul (x y : Fq) : (((x * y : Fq)).val : Int) = ((x.val : Int) * (y.val : Int)) % 32003 := by
  rw [Fin.val_mul, Int.natCast_emod, Int.natCast_mul]; rfl
theorem cF_of (x : Fq) : cF (x.val : Int) = x := fq_ext (by rw [cF_val]; have := x.isLt; omega)
theorem cF_add (a b : Int) : cF (a + b) = cF a + cF b := fq_ext (by rw [fq_add, cF_val, cF_val, cF_val]; omega)
theorem cF_mul (a b : Int) : cF (a * b) = cF a * cF b := fq_ext (by rw [fq_mul, cF_val, cF_val, cF_val, Int.mul_emod])
theorem cF_mod (a : Int) : cF (a % 32003) = cF a := fq_ext (by rw [cF_val, cF_val]; omega)
theorem cF_0 : cF 0 = 0 := by decide +kernel
theorem cF_1 : cF 1 = 1 := by decide +kernel
theorem cF_P : cF 32003 = 0 := by decide +kernel
theorem cF_neg (a : Int) : cF (-a) = - cF a := by
  have h : cF (-a) + cF a = 0 := by rw [← cF_add]; rw [show -a + a = 0 by omega]; exact cF_0
  grind
theorem cF_sub (a b : Int) : cF (a - b) = cF a - cF b := by
  rw [show a - b = a + -b by omega, cF_add, cF_neg]; grind
theorem fq_mulb (x y : Fq) : 0 ≤ (x.val : Int) * (y.val : Int) ∧ (x.val : Int) * (y.val : Int) ≤ 1024128004 := by
  have hx := x.isLt
  have hy := y.isLt
  have h : x.val * y.val ≤ 32002 * 32002 := Nat.mul_le_mul (by omega) (by omega)
  have e : ((x.val * y.val : Nat) : Int) = (x.val : Int) * (y.val : Int) := Int.natCast_mul _ _
  omega
/-- a row of numbers; a row of whole numbers; a place of it set -/
def pv (a : Nat → Fq) : Nat → Int32 := fun j => zI ((a j).val : Int)
def iv (a : Nat → Int) : Nat → Int32 := fun j => zI (a j)
def pL (a : Nat → Fq) : Nat → Int64 := fun j => zL ((a j).val : Int)
def cset {α : Type} (f : Nat → α) (k : Nat) (v : α) : Nat → α := fun j => if j = k then v else f j
theorem pv_set (a : Nat → Fq) (k : Nat) (v : Fq) : upd (pv a) k (zI (v.val : Int)) = pv (cset a k v) := by
  funext j; unfold upd pv cset; by_cases h : j = k <;> simp [h]
theorem iv_set (a : Nat → Int) (k : Nat) (v : Int) : upd (iv a) k (zI v) = iv (cset a k v) := by
  funext j; unfold upd iv cset; by_cases h : j = k <;> simp [h]
theorem pL_set (a : Nat → Fq) (k : Nat) (v : Fq) : vp_updL (pL a) k (zL (v.val : Int)) = pL (cset a k v) := by
  funext j; unfold vp_updL pL cset; by_cases h : j = k <;> simp [h]
