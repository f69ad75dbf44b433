/-! the inverse, looked at number by number -/
def ckv (x : Nat) : Nat :=
  let s0 := x
  let s1 := s0 * s0 % 32003
  let s2 := s1 * s1 % 32003
  let s3 := s2 * s2 % 32003
  let s4 := s3 * s3 % 32003
  let s5 := s4 * s4 % 32003
  let s6 := s5 * s5 % 32003
  let s7 := s6 * s6 % 32003
  let s8 := s7 * s7 % 32003
  let s9 := s8 * s8 % 32003
  let s10 := s9 * s9 % 32003
  let s11 := s10 * s10 % 32003
  let s12 := s11 * s11 % 32003
  let s13 := s12 * s12 % 32003
  let s14 := s13 * s13 % 32003
  let r0 := 1 * s0 % 32003
  let r8 := r0 * s8 % 32003
  let r10 := r8 * s10 % 32003
  let r11 := r10 * s11 % 32003
  let r12 := r11 * s12 % 32003
  let r13 := r12 * s13 % 32003
  let r14 := r13 * s14 % 32003
  x * r14 % 32003
def ckB (x : Nat) : Bool := Nat.beq x 0 || Nat.ble 32003 x || Nat.beq (ckv x) 1
def ckA : Nat → Nat → Bool
  | 0, b => ckB b
  | d + 1, b => ckA d b && ckA d (b + 2 ^ d)
theorem ckA_ok : ∀ (d b : Nat), ckA d b = true → ∀ x, b ≤ x → x < b + 2 ^ d → ckB x = true
  | 0, b, h, x, h1, h2 => by
    have e : x = b := by simp at h2; omega
    rw [e]; exact h
  | d + 1, b, h, x, h1, h2 => by
    unfold ckA at h
    rw [Bool.and_eq_true] at h
    rw [Nat.pow_succ] at h2
    by_cases g : x < b + 2 ^ d
    · exact ckA_ok d b h.1 x h1 g
    · exact ckA_ok d (b + 2 ^ d) h.2 x (by omega) (by omega)
theorem ck0 : ckA 12 0 = true := by decide +kernel
theorem ck1 : ckA 12 4096 = true := by decide +kernel
theorem ck2 : ckA 12 8192 = true := by decide +kernel
theorem ck3 : ckA 12 12288 = true := by decide +kernel
theorem ck4 : ckA 12 16384 = true := by decide +kernel
theorem ck5 : ckA 12 20480 = true := by decide +kernel
theorem ck6 : ckA 12 24576 = true := by decide +kernel
theorem ck7 : ckA 12 28672 = true := by decide +kernel
theorem ck_all {x : Nat} (h : x < 32003) : ckB x = true := by
  by_cases h1 : x < 4096
  · exact ckA_ok 12 0 ck0 x (by omega) (by omega)
  by_cases h2 : x < 8192
  · exact ckA_ok 12 4096 ck1 x (by omega) (by omega)
  by_cases h3 : x < 12288
  · exact ckA_ok 12 8192 ck2 x (by omega) (by omega)
  by_cases h4 : x < 16384
  · exact ckA_ok 12 12288 ck3 x (by omega) (by omega)
  by_cases h5 : x < 20480
  · exact ckA_ok 12 16384 ck4 x (by omega) (by omega)
  by_cases h6 : x < 24576
  · exact ckA_ok 12 20480 ck5 x (by omega) (by omega)
  by_cases h7 : x < 28672
  · exact ckA_ok 12 24576 ck6 x (by omega) (by omega)
  exact ckA_ok 12 28672 ck7 x (by omega) (by omega)
theorem ivq_val (x : Fq) : (x * ivq x).val = ckv x.val := rfl
theorem ivq_mul {x : Fq} (h : x ≠ 0) : x * ivq x = 1 := by
  have h0 : x.val ≠ 0 := fun e => h (Fin.ext e)
  have hc := ck_all x.isLt
  unfold ckB at hc
  rw [Bool.or_eq_true, Bool.or_eq_true] at hc
  rcases hc with (hc | hc) | hc
  · exact absurd (Nat.eq_of_beq_eq_true hc) h0
  · exact absurd (Nat.le_of_ble_eq_true hc) (by have := x.isLt; omega)
  · have h1 : (x * ivq x).val = 1 := by rw [ivq_val]; exact Nat.eq_of_beq_eq_true hc
    exact Fin.ext h1
theorem fq_dom {x y : Fq} (h : x * y = 0) : x = 0 ∨ y = 0 := by
  by_cases hx : x = 0
  · exact Or.inl hx
  · refine Or.inr ?_
    have h1 := ivq_mul hx
    grind
theorem ivq_ne {x : Fq} (h : x ≠ 0) : ivq x ≠ 0 := fun e => by
  have h1 := ivq_mul h
  rw [e] at h1
  have h2 : x * 0 = (0 : Fq) := by grind
  rw [h2] at h1
  exact absurd h1 (by decide)
theorem ivq_one : ivq 1 = 1 := by decide +kernel
