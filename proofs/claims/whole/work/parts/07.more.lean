/-! further instructions: bits, longs -/
def qL (a : Nat → Int) : Nat → Int64 := fun j => zL (a j)
theorem qL_set (a : Nat → Int) (k : Nat) (v : Int) : vp_updL (qL a) k (zL v) = qL (cset a k v) := by
  funext j; unfold vp_updL qL cset; by_cases h : j = k <;> simp [h]
theorem zL_0 : zL 0 = 0 := rfl
theorem zI_and1 {n : Nat} (h : n < 2147483648) : zI (n : Int) &&& zI 1 = zI ((n % 2 : Nat) : Int) := by
  rw [zI_nat, zI_nat, show zI 1 = 1 from rfl]
  exact pk_andN (n := n) (by omega) (m := 1) 1 (by decide)
theorem zI_shr1 {n : Nat} (h : n < 2147483648) : zI (n : Int) >>> (zI 1 &&& 31) = zI ((n / 2 : Nat) : Int) := by
  rw [zI_nat, zI_nat]
  exact pk_shrN (n := n) (by omega) (zI 1 &&& 31) 1 (by decide)
theorem zI_div {a b : Int} (a1 : 0 ≤ a) (a2 : a < 2147483648) (b1 : 0 < b) (b2 : b < 2147483648) : zI a / zI b = zI (a / b) := by
  obtain ⟨n, rfl⟩ := Int.eq_ofNat_of_zero_le a1
  obtain ⟨d, rfl⟩ := Int.eq_ofNat_of_zero_le (Int.le_of_lt b1)
  rw [show zI ((n : Int) / (d : Int)) = nI (n / d) from by rw [← Int.natCast_ediv]; exact zI_nat _]
  rw [show zI (n : Int) = nI n from zI_nat n, show zI (d : Int) = nI d from zI_nat d]
  exact pk_div (a := n) (d := d) (by omega) (by omega) (by omega)
section GM
variable {G : Gt} {E : ev} {l : Launch} {R : Room} {y : MethodName} {cc : ByteArray} {nL : Nat} {Ts : List Cond} {ce so : Nat} {ws : va_W} {lv : Lv} {pc : Nat} {st : List Value}
theorem g_iand1 (C : Ok G E l R y cc nL Ts) {a : Int} (n : Nat) (hd : decode cc pc = .ok (.iand, 1)) (ha : a = (n : Int)) (hn : n < 2147483648) (k : G ce so ws lv (pc + 1) (.int (zI ((n % 2 : Nat) : Int)) :: st)) : G ce so ws lv pc (.int (zI 1) :: .int (zI a) :: st) := by
  obtain ⟨p, e, s, m, args, below, meth, c, A, Q, tl, rfl, hx, hb, -⟩ := C
  subst ha
  rw [← zI_and1 hn] at k
  exact fun H locs ls hP hD hS hl => lv_iand hx hb hd (k H locs ls hP hD hS hl)
theorem g_ishr1 (C : Ok G E l R y cc nL Ts) {a : Int} (n : Nat) (hd : decode cc pc = .ok (.ishr, 1)) (ha : a = (n : Int)) (hn : n < 2147483648) (k : G ce so ws lv (pc + 1) (.int (zI ((n / 2 : Nat) : Int)) :: st)) : G ce so ws lv pc (.int (zI 1) :: .int (zI a) :: st) := by
  obtain ⟨p, e, s, m, args, below, meth, c, A, Q, tl, rfl, hx, hb, -⟩ := C
  subst ha
  rw [← zI_shr1 hn] at k
  exact fun H locs ls hP hD hS hl => lv_ishr hx hb hd (k H locs ls hP hD hS hl)
theorem g_idiv (C : Ok G E l R y cc nL Ts) {a b : Int} (hd : decode cc pc = .ok (.idiv, 1)) (a1 : 0 ≤ a) (a2 : a < 2147483648) (b1 : 0 < b) (b2 : b < 2147483648) (k : G ce so ws lv (pc + 1) (.int (zI (a / b)) :: st)) : G ce so ws lv pc (.int (zI b) :: .int (zI a) :: st) := by
  obtain ⟨p, e, s, m, args, below, meth, c, A, Q, tl, rfl, hx, hb, -⟩ := C
  rw [← zI_div a1 a2 b1 b2] at k
  have hne : ¬ zI b = 0 := fun h => by
    rw [← zI_0, zI_eq (by omega) b2 (by omega) (by omega)] at h
    omega
  exact fun H locs ls hP hD hS hl => lv_idiv hx hb hd hne (k H locs ls hP hD hS hl)
theorem g_lconst (C : Ok G E l R y cc nL Ts) {n : Fin 2} (hd : decode cc pc = .ok (.lconst n, 1)) (k : G ce so ws lv (pc + 1) (.long (zL (n.val : Int)) :: st)) : G ce so ws lv pc st := by
  obtain ⟨p, e, s, m, args, below, meth, c, A, Q, tl, rfl, hx, hb, -⟩ := C
  exact fun H locs ls hP hD hS hl => lv_lconst hx hb hd Int64.ofInt_eq_ofNat.symm (k H locs ls hP hD hS hl)
theorem g_ldc2 (C : Ok G E l R y cc nL Ts) {index : Nat} (z : Int) (hk : Jvm.Cond.constantLong y.cls index (zL z) ∈ Ts) (hd : decode cc pc = .ok (.ldc2_w index, 3)) (k : G ce so ws lv (pc + 3) (.long (zL z) :: st)) : G ce so ws lv pc st := by
  obtain ⟨p, e, s, m, args, below, meth, c, A, Q, tl, rfl, hx, hb, hml, hown, hnm, hts, hK, hA⟩ := C
  exact fun H locs ls hP hD hS hl => lv_ldc2 hx hb hown (hts _ hk) hd (k H locs ls hP hD hS hl)
theorem g_i2l (C : Ok G E l R y cc nL Ts) {a : Int} (hd : decode cc pc = .ok (.i2l, 1)) (a1 : -2147483648 ≤ a) (a2 : a < 2147483648) (k : G ce so ws lv (pc + 1) (.long (zL a) :: st)) : G ce so ws lv pc (.int (zI a) :: st) := by
  obtain ⟨p, e, s, m, args, below, meth, c, A, Q, tl, rfl, hx, hb, -⟩ := C
  exact fun H locs ls hP hD hS hl => lv_i2l hx hb hd (zI_zL a1 a2) (k H locs ls hP hD hS hl)
theorem g_l2i (C : Ok G E l R y cc nL Ts) {a : Int} (hd : decode cc pc = .ok (.l2i, 1)) (k : G ce so ws lv (pc + 1) (.int (zI a) :: st)) : G ce so ws lv pc (.long (zL a) :: st) := by
  obtain ⟨p, e, s, m, args, below, meth, c, A, Q, tl, rfl, hx, hb, -⟩ := C
  exact fun H locs ls hP hD hS hl => lv_l2i hx hb hd (zL_zI a) (k H locs ls hP hD hS hl)
theorem g_lrem (C : Ok G E l R y cc nL Ts) {a b : Int} (hd : decode cc pc = .ok (.lrem, 1)) (a1 : -9223372036854775808 ≤ a) (a2 : a < 9223372036854775808) (b1 : 0 < b) (b2 : b < 9223372036854775808) (k : G ce so ws lv (pc + 1) (.long (zL (a.tmod b)) :: st)) : G ce so ws lv pc (.long (zL b) :: .long (zL a) :: st) := by
  obtain ⟨p, e, s, m, args, below, meth, c, A, Q, tl, rfl, hx, hb, -⟩ := C
  rw [← zL_rem a1 a2 b1 b2] at k
  have hne : ¬ zL b = 0 := fun h => by
    rw [← zL_0, zL_eq (by omega) b2 (by omega) (by omega)] at h
    omega
  exact fun H locs ls hP hD hS hl => lv_lrem hx hb hd hne (k H locs ls hP hD hS hl)
theorem g_lmod (C : Ok G E l R y cc nL Ts) {a : Int} (hd : decode cc pc = .ok (.lrem, 1)) (a1 : 0 ≤ a) (a2 : a < 9223372036854775808) (k : G ce so ws lv (pc + 1) (.long (zL ((cF a).val : Int)) :: st)) : G ce so ws lv pc (.long (zL 32003) :: .long (zL a) :: st) := by
  rw [cF_val, ← Int.tmod_eq_emod_of_nonneg a1] at k
  exact g_lrem C hd (by omega) a2 (by omega) (by omega) k
theorem g_ltop {x : Int64} (x' : Int64) (h : x = x') (k : G ce so ws lv pc (.long x' :: st)) : G ce so ws lv pc (.long x :: st) := by subst h; exact k
theorem g_jadd (C : Ok G E l R y cc nL Ts) {a b : Int} (hd : decode cc pc = .ok (.ladd, 1)) (k : G ce so ws lv (pc + 1) (.long (zL (a + b)) :: st)) : G ce so ws lv pc (.long (zL b) :: .long (zL a) :: st) := by
  obtain ⟨p, e, s, m, args, below, meth, c, A, Q, tl, rfl, hx, hb, -⟩ := C
  rw [← zL_add] at k
  exact fun H locs ls hP hD hS hl => lv_ladd hx hb hd (k H locs ls hP hD hS hl)
theorem g_jsub (C : Ok G E l R y cc nL Ts) {a b : Int} (hd : decode cc pc = .ok (.lsub, 1)) (k : G ce so ws lv (pc + 1) (.long (zL (a - b)) :: st)) : G ce so ws lv pc (.long (zL b) :: .long (zL a) :: st) := by
  obtain ⟨p, e, s, m, args, below, meth, c, A, Q, tl, rfl, hx, hb, -⟩ := C
  rw [← zL_sub] at k
  exact fun H locs ls hP hD hS hl => lv_lsub hx hb hd (k H locs ls hP hD hS hl)
theorem g_jmul (C : Ok G E l R y cc nL Ts) {a b : Int} (hd : decode cc pc = .ok (.lmul, 1)) (k : G ce so ws lv (pc + 1) (.long (zL (a * b)) :: st)) : G ce so ws lv pc (.long (zL b) :: .long (zL a) :: st) := by
  obtain ⟨p, e, s, m, args, below, meth, c, A, Q, tl, rfl, hx, hb, -⟩ := C
  rw [← zL_mul] at k
  exact fun H locs ls hP hD hS hl => lv_lmul hx hb hd (k H locs ls hP hD hS hl)
theorem lg_cmp_z {a b : Int} (a1 : -9223372036854775808 ≤ a) (a2 : a < 9223372036854775808) (b1 : -9223372036854775808 ≤ b) (b2 : b < 9223372036854775808) : (a < b ∧ lg_cmp (zL a) (zL b) = zI (-1)) ∨ (a = b ∧ lg_cmp (zL a) (zL b) = zI 0) ∨ (b < a ∧ lg_cmp (zL a) (zL b) = zI 1) := by
  have h1 := zL_lt a1 a2 b1 b2
  have h2 := zL_eq a1 a2 b1 b2
  have h3 := zL_lt b1 b2 a1 a2
  unfold lg_cmp
  rcases Int.lt_trichotomy a b with h | h | h
  · refine Or.inl ⟨h, ?_⟩
    have e1 : ¬ zL b < zL a := fun q => absurd (h3.mp q) (by omega)
    have e2 : ¬ zL a = zL b := fun q => absurd (h2.mp q) (by omega)
    have e3 := h1.mpr h
    simp [e1, e2, e3]; rfl
  · refine Or.inr (Or.inl ⟨h, ?_⟩)
    subst h
    have e1 : ¬ zL a < zL a := fun q => absurd (h1.mp q) (by omega)
    simp [e1]; rfl
  · refine Or.inr (Or.inr ⟨h, ?_⟩)
    have e1 : ¬ zL a < zL b := fun q => absurd (h1.mp q) (by omega)
    have e2 : ¬ zL a = zL b := fun q => absurd (h2.mp q) (by omega)
    have e3 := h3.mpr h
    simp [e1, e2, e3]; rfl
theorem g_lcmp_eq (C : Ok G E l R y cc nL Ts) {a b off : Int} (tgt : Nat) (hd1 : decode cc pc = .ok (.lcmp, 1)) (hd : decode cc (pc + 1) = .ok (.ifCond .eq off, 3)) (ht : ((pc + 1 : Nat) : Int) + off = (tgt : Int)) (a1 : -9223372036854775808 ≤ a) (a2 : a < 9223372036854775808) (b1 : -9223372036854775808 ≤ b) (b2 : b < 9223372036854775808) (kt : a = b → G ce so ws lv tgt st) (kf : a ≠ b → G ce so ws lv (pc + 1 + 3) st) : G ce so ws lv pc (.long (zL b) :: .long (zL a) :: st) := by
  have step : G ce so ws lv (pc + 1) (.int (lg_cmp (zL a) (zL b)) :: st) → G ce so ws lv pc (.long (zL b) :: .long (zL a) :: st) := by
    obtain ⟨p, e, s, m, args, below, meth, c, A, Q, tl, rfl, hx, hb, -⟩ := C
    exact fun k H locs ls hP hD hS hl => W.lcmp hx hb hd1 (k H locs ls hP hD hS hl)
  refine step ?_
  rcases lg_cmp_z a1 a2 b1 b2 with ⟨h, e⟩ | ⟨h, e⟩ | ⟨h, e⟩ <;> rw [e] <;> refine g_if_eq C tgt hd ht (by omega) (by omega) (fun q => ?_) (fun q => ?_) <;> first | exact kt (by omega) | exact kf (by omega) | omega
theorem g_lcmp_ne (C : Ok G E l R y cc nL Ts) {a b off : Int} (tgt : Nat) (hd1 : decode cc pc = .ok (.lcmp, 1)) (hd : decode cc (pc + 1) = .ok (.ifCond .ne off, 3)) (ht : ((pc + 1 : Nat) : Int) + off = (tgt : Int)) (a1 : -9223372036854775808 ≤ a) (a2 : a < 9223372036854775808) (b1 : -9223372036854775808 ≤ b) (b2 : b < 9223372036854775808) (kt : a ≠ b → G ce so ws lv tgt st) (kf : a = b → G ce so ws lv (pc + 1 + 3) st) : G ce so ws lv pc (.long (zL b) :: .long (zL a) :: st) := by
  have step : G ce so ws lv (pc + 1) (.int (lg_cmp (zL a) (zL b)) :: st) → G ce so ws lv pc (.long (zL b) :: .long (zL a) :: st) := by
    obtain ⟨p, e, s, m, args, below, meth, c, A, Q, tl, rfl, hx, hb, -⟩ := C
    exact fun k H locs ls hP hD hS hl => W.lcmp hx hb hd1 (k H locs ls hP hD hS hl)
  refine step ?_
  rcases lg_cmp_z a1 a2 b1 b2 with ⟨h, e⟩ | ⟨h, e⟩ | ⟨h, e⟩ <;> rw [e] <;> refine g_if_ne C tgt hd ht (by omega) (by omega) (fun q => ?_) (fun q => ?_) <;> first | exact kt (by omega) | exact kf (by omega) | omega
theorem g_lcmp_lt (C : Ok G E l R y cc nL Ts) {a b off : Int} (tgt : Nat) (hd1 : decode cc pc = .ok (.lcmp, 1)) (hd : decode cc (pc + 1) = .ok (.ifCond .lt off, 3)) (ht : ((pc + 1 : Nat) : Int) + off = (tgt : Int)) (a1 : -9223372036854775808 ≤ a) (a2 : a < 9223372036854775808) (b1 : -9223372036854775808 ≤ b) (b2 : b < 9223372036854775808) (kt : a < b → G ce so ws lv tgt st) (kf : b ≤ a → G ce so ws lv (pc + 1 + 3) st) : G ce so ws lv pc (.long (zL b) :: .long (zL a) :: st) := by
  have step : G ce so ws lv (pc + 1) (.int (lg_cmp (zL a) (zL b)) :: st) → G ce so ws lv pc (.long (zL b) :: .long (zL a) :: st) := by
    obtain ⟨p, e, s, m, args, below, meth, c, A, Q, tl, rfl, hx, hb, -⟩ := C
    exact fun k H locs ls hP hD hS hl => W.lcmp hx hb hd1 (k H locs ls hP hD hS hl)
  refine step ?_
  rcases lg_cmp_z a1 a2 b1 b2 with ⟨h, e⟩ | ⟨h, e⟩ | ⟨h, e⟩ <;> rw [e] <;> refine g_if_lt C tgt hd ht (by omega) (by omega) (fun q => ?_) (fun q => ?_) <;> first | exact kt (by omega) | exact kf (by omega) | omega
theorem g_lcmp_ge (C : Ok G E l R y cc nL Ts) {a b off : Int} (tgt : Nat) (hd1 : decode cc pc = .ok (.lcmp, 1)) (hd : decode cc (pc + 1) = .ok (.ifCond .ge off, 3)) (ht : ((pc + 1 : Nat) : Int) + off = (tgt : Int)) (a1 : -9223372036854775808 ≤ a) (a2 : a < 9223372036854775808) (b1 : -9223372036854775808 ≤ b) (b2 : b < 9223372036854775808) (kt : b ≤ a → G ce so ws lv tgt st) (kf : a < b → G ce so ws lv (pc + 1 + 3) st) : G ce so ws lv pc (.long (zL b) :: .long (zL a) :: st) := by
  have step : G ce so ws lv (pc + 1) (.int (lg_cmp (zL a) (zL b)) :: st) → G ce so ws lv pc (.long (zL b) :: .long (zL a) :: st) := by
    obtain ⟨p, e, s, m, args, below, meth, c, A, Q, tl, rfl, hx, hb, -⟩ := C
    exact fun k H locs ls hP hD hS hl => W.lcmp hx hb hd1 (k H locs ls hP hD hS hl)
  refine step ?_
  rcases lg_cmp_z a1 a2 b1 b2 with ⟨h, e⟩ | ⟨h, e⟩ | ⟨h, e⟩ <;> rw [e] <;> refine g_if_ge C tgt hd ht (by omega) (by omega) (fun q => ?_) (fun q => ?_) <;> first | exact kt (by omega) | exact kf (by omega) | omega
theorem g_lcmp_gt (C : Ok G E l R y cc nL Ts) {a b off : Int} (tgt : Nat) (hd1 : decode cc pc = .ok (.lcmp, 1)) (hd : decode cc (pc + 1) = .ok (.ifCond .gt off, 3)) (ht : ((pc + 1 : Nat) : Int) + off = (tgt : Int)) (a1 : -9223372036854775808 ≤ a) (a2 : a < 9223372036854775808) (b1 : -9223372036854775808 ≤ b) (b2 : b < 9223372036854775808) (kt : b < a → G ce so ws lv tgt st) (kf : a ≤ b → G ce so ws lv (pc + 1 + 3) st) : G ce so ws lv pc (.long (zL b) :: .long (zL a) :: st) := by
  have step : G ce so ws lv (pc + 1) (.int (lg_cmp (zL a) (zL b)) :: st) → G ce so ws lv pc (.long (zL b) :: .long (zL a) :: st) := by
    obtain ⟨p, e, s, m, args, below, meth, c, A, Q, tl, rfl, hx, hb, -⟩ := C
    exact fun k H locs ls hP hD hS hl => W.lcmp hx hb hd1 (k H locs ls hP hD hS hl)
  refine step ?_
  rcases lg_cmp_z a1 a2 b1 b2 with ⟨h, e⟩ | ⟨h, e⟩ | ⟨h, e⟩ <;> rw [e] <;> refine g_if_gt C tgt hd ht (by omega) (by omega) (fun q => ?_) (fun q => ?_) <;> first | exact kt (by omega) | exact kf (by omega) | omega
theorem g_lcmp_le (C : Ok G E l R y cc nL Ts) {a b off : Int} (tgt : Nat) (hd1 : decode cc pc = .ok (.lcmp, 1)) (hd : decode cc (pc + 1) = .ok (.ifCond .le off, 3)) (ht : ((pc + 1 : Nat) : Int) + off = (tgt : Int)) (a1 : -9223372036854775808 ≤ a) (a2 : a < 9223372036854775808) (b1 : -9223372036854775808 ≤ b) (b2 : b < 9223372036854775808) (kt : a ≤ b → G ce so ws lv tgt st) (kf : b < a → G ce so ws lv (pc + 1 + 3) st) : G ce so ws lv pc (.long (zL b) :: .long (zL a) :: st) := by
  have step : G ce so ws lv (pc + 1) (.int (lg_cmp (zL a) (zL b)) :: st) → G ce so ws lv pc (.long (zL b) :: .long (zL a) :: st) := by
    obtain ⟨p, e, s, m, args, below, meth, c, A, Q, tl, rfl, hx, hb, -⟩ := C
    exact fun k H locs ls hP hD hS hl => W.lcmp hx hb hd1 (k H locs ls hP hD hS hl)
  refine step ?_
  rcases lg_cmp_z a1 a2 b1 b2 with ⟨h, e⟩ | ⟨h, e⟩ | ⟨h, e⟩ <;> rw [e] <;> refine g_if_le C tgt hd ht (by omega) (by omega) (fun q => ?_) (fun q => ?_) <;> first | exact kt (by omega) | exact kf (by omega) | omega
theorem g_alenJ (C : Ok G E l R y cc nL Ts) {a n : Nat} {f : Nat → Int64} (q0 : Nat) (ha : ws[q0]? = some (a, .inl (E.2.2.2.1, n, .inr (.inl f)))) (hd : decode cc pc = .ok (.arraylength, 1)) (kk : G ce so ws lv (pc + 1) (.int (zI (n : Int)) :: st)) : G ce so ws lv pc (.ref a :: st) := by
  obtain ⟨p, e, s, m, args, below, meth, c, A, Q, tl, rfl, hx, hb, hml, hown, hnm, hts, hK, hA⟩ := C
  exact fun H locs ls hP hD hS hl => va_alen (ty := .long) hx hb hK.1 hP q0 1 (tl_at ha) rfl (zI_nat n).symm hd (kk H locs ls hP hD hS hl)
theorem g_lald (C : Ok G E l R y cc nL Ts) {a n : Nat} {f : Nat → Fq} {x : Int} (q0 : Nat) (k : Nat) (ha : ws[q0]? = some (a, .inl (E.2.2.2.1, n, .inr (.inl (pL f))))) (hx0 : x = (k : Int)) (hk : k < n) (hn : n < 2147483648) (hd : decode cc pc = .ok (.laload, 1)) (kk : G ce so ws lv (pc + 1) (.long (zL ((f k).val : Int)) :: st)) : G ce so ws lv pc (.int (zI x) :: .ref a :: st) := by
  obtain ⟨p, e, s, m, args, below, meth, c, A, Q, tl, rfl, hx, hb, hml, hown, hnm, hts, hK, hA⟩ := C
  subst hx0
  refine fun H locs ls hP hD hS hl => va_lald hx hb hK.1 hP q0 1 (tl_at ha) rfl (zI_in hk hn) hd ?_
  rw [zI_cl (by omega)]
  exact kk H locs ls hP hD hS hl
theorem g_laldZ (C : Ok G E l R y cc nL Ts) {a n : Nat} {f : Nat → Int} {x : Int} (q0 : Nat) (k : Nat) (ha : ws[q0]? = some (a, .inl (E.2.2.2.1, n, .inr (.inl (qL f))))) (hx0 : x = (k : Int)) (hk : k < n) (hn : n < 2147483648) (hd : decode cc pc = .ok (.laload, 1)) (kk : G ce so ws lv (pc + 1) (.long (zL (f k)) :: st)) : G ce so ws lv pc (.int (zI x) :: .ref a :: st) := by
  obtain ⟨p, e, s, m, args, below, meth, c, A, Q, tl, rfl, hx, hb, hml, hown, hnm, hts, hK, hA⟩ := C
  subst hx0
  refine fun H locs ls hP hD hS hl => va_lald hx hb hK.1 hP q0 1 (tl_at ha) rfl (zI_in hk hn) hd ?_
  rw [zI_cl (by omega)]
  exact kk H locs ls hP hD hS hl
theorem g_last (C : Ok G E l R y cc nL Ts) {a n : Nat} {f : Nat → Fq} {x z : Int} (ws' : va_W) (q0 : Nat) (k : Nat) (v : Fq) (ha : ws[q0]? = some (a, .inl (E.2.2.2.1, n, .inr (.inl (pL f))))) (hx0 : x = (k : Int)) (hk : k < n) (hn : n < 2147483648) (hz : z = (v.val : Int)) (hd : decode cc pc = .ok (.lastore, 1)) (hw : ws.set q0 (a, .inl (E.2.2.2.1, n, .inr (.inl (pL (cset f k v))))) = ws') (kk : G ce so ws' lv (pc + 1) st) : G ce so ws lv pc (.long (zL z) :: .int (zI x) :: .ref a :: st) := by
  obtain ⟨p, e, s, m, args, below, meth, c, A, Q, tl, rfl, hx, hb, hml, hown, hnm, hts, hK, hA⟩ := C
  subst hx0
  subst hz
  subst hw
  refine fun H locs ls hP hD hS hl => va_last hx hb hK.1 hP hD hS q0 1 (tl_at ha) rfl (zI_in hk hn) hd ?_
  rw [zI_cl (by omega), pL_set, tl_set ha]
  exact fun H1 locs1 hP1 hD1 hS1 => kk H1 locs1 ls hP1 hD1 hS1 hl
theorem g_lastZ (C : Ok G E l R y cc nL Ts) {a n : Nat} {f : Nat → Int} {x z : Int} (ws' : va_W) (q0 : Nat) (k : Nat) (ha : ws[q0]? = some (a, .inl (E.2.2.2.1, n, .inr (.inl (qL f))))) (hx0 : x = (k : Int)) (hk : k < n) (hn : n < 2147483648) (hd : decode cc pc = .ok (.lastore, 1)) (hw : ws.set q0 (a, .inl (E.2.2.2.1, n, .inr (.inl (qL (cset f k z))))) = ws') (kk : G ce so ws' lv (pc + 1) st) : G ce so ws lv pc (.long (zL z) :: .int (zI x) :: .ref a :: st) := by
  obtain ⟨p, e, s, m, args, below, meth, c, A, Q, tl, rfl, hx, hb, hml, hown, hnm, hts, hK, hA⟩ := C
  subst hx0
  subst hw
  refine fun H locs ls hP hD hS hl => va_last hx hb hK.1 hP hD hS q0 1 (tl_at ha) rfl (zI_in hk hn) hd ?_
  rw [zI_cl (by omega), qL_set, tl_set ha]
  exact fun H1 locs1 hP1 hD1 hS1 => kk H1 locs1 ls hP1 hD1 hS1 hl
end GM
