/-! what the class's equation finds is the one answer -/
theorem am0 (a b : Po) (f : Fq) : am a f b 0 = fun j => a j + b j * f := by
  funext j; unfold am; rw [if_pos (by omega), show j - 0 = j by omega]; grind
theorem low_sp {kx : Nat → Option Nat} {o i : Nat → Po} {T : Nat → Po} {N : Nat} {Fr : Nat → Prop}
    (hK : ∀ p : Nat, p < 33 → ∀ j : Nat, kx p = some j → i j = lc T N (o j) ∧ hi (i j) = (p : Int) ∧ i j p = 1 ∧ Sm (i j) ∧ ∀ f : Nat, Fr f → o j f = 0) :
    ∀ (n : Nat) (y x : Po), n ≤ 33 → (∀ j : Nat, (low kx o i n y x).1 j - lc T N (low kx o i n y x).2 j = y j - lc T N x j) ∧ (∀ f : Nat, Fr f → (low kx o i n y x).2 f = x f) ∧ ((∀ j : Nat, n ≤ j → y j = 0) → hi (low kx o i n y x).1 < 0 ∨ (0 ≤ hi (low kx o i n y x).1 ∧ kx (hi (low kx o i n y x).1).toNat = none))
  | 0, y, x, _ => ⟨fun _ => rfl, fun _ _ => rfl, fun h => Or.inl (hi_lt (x := 0) (by omega) (fun j _ => h j (by omega)))⟩
  | n + 1, y, x, hn => by
    by_cases g : y n = 0
    · rw [low_0 g]
      have ih := low_sp hK n y x (by omega)
      exact ⟨ih.1, ih.2.1, fun h => ih.2.2 (fun j hj => by
        by_cases e : j = n
        · rw [e]; exact g
        · exact h j (by omega))⟩
    · cases e : kx n with
      | none =>
        rw [low_n g e]
        refine ⟨fun _ => rfl, fun _ _ => rfl, fun h => Or.inr ?_⟩
        have e2 : hi y = (n : Int) := hi_eq (by omega) (by omega) (fun _ => by rw [Int.toNat_natCast]; exact g) (fun j hj => h j (by omega))
        show 0 ≤ hi y ∧ kx (hi y).toNat = none
        rw [e2, Int.toNat_natCast]
        exact ⟨by omega, e⟩
      | some j9 =>
        rw [low_s g e]
        obtain ⟨k1, k2, k3, k4, k5⟩ := hK n (by omega) j9 e
        have ih := low_sp hK n (am y (-(y n)) (i j9) 0) (am x (-(y n)) (o j9) 0) (by omega)
        refine ⟨fun j => ?_, fun f hf => ?_, fun h => ih.2.2 (fun j hj => ?_)⟩
        · rw [ih.1 j, am0, am0, lc_add, k1]; grind
        · rw [ih.2.1 f hf, am0]
          show x f + o j9 f * _ = _
          rw [k5 f hf]; grind
        · rw [am0]
          show y j + i j9 j * -(y n) = 0
          by_cases e2 : j = n
          · rw [e2, k3]; grind
          · rw [h j (by omega), hi_zero k4 (by omega)]; grind
theorem lc_sc (T : Nat → Po) (n : Nat) (y : Po) (u : Fq) : lc T n (sc y u) = sc (lc T n y) u := by
  funext j
  show sm _ n = sm _ n * u
  rw [← sm_mulr]
  exact sm_congr (fun i _ => by unfold sc; grind)
theorem lc_mono (T : Nat → Po) (k : Nat) : lc T (k + 1) (mono k) = T k := by
  funext j
  show sm (fun i => mono k i * T i j) (k + 1) = T k j
  rw [sm_one (k := k) (by omega) (fun i _ h => by rw [show mono k i = 0 from by unfold mono; rw [cset_ne h]; unfold con; split <;> rfl]; grind), show mono k k = 1 from by unfold mono; exact cset_eq]
  grind
/-- a pair as it is kept: its image, its powers -/
def PrI (T : Nat → Po) (kx : Nat → Option Nat) (o i : Nat → Po) (n : Nat) : Prop := Sm (i n) ∧ Sm (o n) ∧ i n = lc T (n + 1) (o n) ∧ (∀ j : Nat, n < j → o n j = 0) ∧ o n n ≠ 0 ∧ (0 ≤ hi (i n) → kx (hi (i n)).toNat = some n) ∧ ∀ f : Nat, f < n → hi (i f) < 0 → o n f = 0
def SvI (T : Nat → Po) (a c : Po) (k : Nat) (s : St6) : Prop :=
  s.2.2.2.1 = pw a k ∧ KpOk s.1 s.2.1 s.2.2.1 (List.range k) ∧ (∀ n : Nat, n < k → PrI T s.1 s.2.1 s.2.2.1 n) ∧
  (Sm s.2.2.2.2.1 ∧ Sm s.2.2.2.2.2) ∧ (∀ j : Nat, s.2.2.2.2.1 j = c j + lc T k s.2.2.2.2.2 j) ∧ (∀ j : Nat, k ≤ j → s.2.2.2.2.2 j = 0) ∧ ∀ f : Nat, f < k → hi (s.2.2.1 f) < 0 → s.2.2.2.2.2 f = 0
theorem SvI_0 {T : Nat → Po} {a c : Po} {o i : Nat → Po} (hc : Sm c) : SvI T a c 0 (fun _ => none, o, i, a, c, con 0) :=
  ⟨rfl, (fun p _ j h => by cases h), fun n hn => absurd hn (by omega), ⟨hc, Sm_con 0⟩, fun j => by show c j = c j + 0; grind, fun j _ => by show con 0 j = 0; unfold con; split <;> rfl, fun f hf => absurd hf (by omega)⟩
/-- what is kept, for low -/
theorem kept_sp {T : Nat → Po} {kx : Nat → Option Nat} {o i : Nat → Po} {k N : Nat} (hK : KpOk kx o i (List.range k)) (hP : ∀ n : Nat, n < k → PrI T kx o i n) (hN : k ≤ N) : ∀ p : Nat, p < 33 → ∀ j : Nat, kx p = some j → i j = lc T N (o j) ∧ hi (i j) = (p : Int) ∧ i j p = 1 ∧ Sm (i j) ∧ ∀ f : Nat, ((f < k ∧ hi (i f) < 0) ∨ k ≤ f) → o j f = 0 := fun p hp j hj => by
  obtain ⟨h1, h2, h3, h4, h5⟩ := hK p hp j hj
  have hjk := List.mem_range.mp h1
  obtain ⟨q1, q2, q3, q4, q5, q6, q7⟩ := hP j hjk
  refine ⟨by rw [lc_more (show j + 1 ≤ N by omega) (fun f hf => q4 f (by omega))]; exact q3, h2, h3, h4, fun f hf => ?_⟩
  by_cases g : j < f
  · exact q4 f g
  · rcases hf with ⟨f1, f2⟩ | f1
    · by_cases e : f = j
      · rw [e] at f2; omega
      · exact q7 f (by omega) f2
    · omega
theorem kpc_sc {y x : Po} {T : Nat → Po} {n : Nat} (h : y = lc T n x) : kpc y y = lc T n (kpc y x) := by
  unfold kpc
  split
  · exact h
  · rw [lc_sc, ← h]
theorem kpc_0 {y x : Po} {f : Nat} (h : x f = 0) : kpc y x f = 0 := by
  unfold kpc
  split
  · exact h
  · unfold sc; rw [h]; grind
theorem kpc_ne {y x : Po} {f : Nat} (h : x f ≠ 0) : kpc y x f ≠ 0 := by
  unfold kpc
  split
  · exact h
  · rename_i g
    unfold sc
    intro e
    rcases fq_dom e with e | e
    · exact h e
    · exact ivq_ne (nm_ne (by omega)) e
theorem svs_I {T : Nat → Po} {a b c : Po} {k : Nat} {s : St6} (hT : am (pw a k) 32002 b k = T k) (hTS : Sm (T k)) (hk : k ≤ 20) (h : SvI T a c k s) : SvI T a c (k + 1) (svs b pA k s) ∧ (hi (svs b pA k s).2.2.2.2.1 < 0 ∨ (svs b pA k s).1 (hi (svs b pA k s).2.2.2.2.1).toNat = none) := by
  obtain ⟨kx, o, i, tg, R, rx⟩ := s
  obtain ⟨h1, hK, hP, hS, hR, hx, hf⟩ := h
  have h1 : tg = pw a k := h1
  have hK : KpOk kx o i (List.range k) := hK
  have hP : ∀ n : Nat, n < k → PrI T kx o i n := hP
  have hS : Sm R ∧ Sm rx := hS
  have hR : ∀ j : Nat, R j = c j + lc T k rx j := hR
  have hx : ∀ j : Nat, k ≤ j → rx j = 0 := hx
  have hf : ∀ f : Nat, f < k → hi (i f) < 0 → rx f = 0 := hf
  obtain ⟨y, x, hyx⟩ : ∃ y x, lowr kx o i (am tg 32002 b k) (mono k) = (y, x) := ⟨_, _, rfl⟩
  have hyx2 : low kx o i (hi (T k) + 1).toNat (T k) (mono k) = (y, x) := by rw [← hyx, h1, hT]; rfl
  have hlT := hi_lo (T k)
  have hL := low_sp (Fr := fun f => (f < k ∧ hi (i f) < 0) ∨ k ≤ f) (kept_sp hK hP (show k ≤ k + 1 by omega)) (hi (T k) + 1).toNat (T k) (mono k) (by omega)
  have hLS := low_Sm hK (hi (T k) + 1).toNat (T k) (mono k) (by omega) hTS (mono_Sm (by omega))
  rw [hyx2] at hL hLS
  obtain ⟨hL1, hL2, hL3⟩ := hL
  have hL3 := hL3 (fun j hj => hi_zero hTS (by omega))
  have hy : y = lc T (k + 1) x := by
    funext j
    have := hL1 j
    rw [lc_mono] at this
    have this : y j - lc T (k + 1) x j = T k j - T k j := this
    grind
  have hxk : x k = 1 := by
    have : x k = mono k k := hL2 k (Or.inr (by omega))
    rw [this]; unfold mono; exact cset_eq
  have hxz : ∀ f : Nat, ((f < k ∧ hi (i f) < 0) ∨ k < f) → x f = 0 := fun f hf => by
    have : x f = mono k f := hL2 f (by rcases hf with g | g; exact Or.inl g; exact Or.inr (by omega))
    rw [this]; unfold mono; rw [cset_ne (by omega)]; unfold con; split <;> rfl
  obtain ⟨kx2, e2⟩ : ∃ kx2, kx2 = if hi y < 0 then kx else cset kx (hi y).toNat (some k) := ⟨_, rfl⟩
  obtain ⟨o2, eo⟩ : ∃ o2, o2 = cset o k (kpc y x) := ⟨_, rfl⟩
  obtain ⟨i2, ei⟩ : ∃ i2, i2 = cset i k (kpc y y) := ⟨_, rfl⟩
  have hlow : ∀ n : Nat, n < k → o2 n = o n ∧ i2 n = i n := fun n hn => by rw [eo, ei, cset_ne (by omega), cset_ne (by omega)]; exact ⟨rfl, rfl⟩
  have hik : o2 k = kpc y x ∧ i2 k = kpc y y := by rw [eo, ei, cset_eq, cset_eq]; exact ⟨rfl, rfl⟩
  have hK2 : KpOk kx2 o2 i2 (List.range (k + 1)) := by rw [e2, eo, ei]; exact KpOk_step hK hLS.1 hLS.2
  have hP2 : ∀ n : Nat, n < k + 1 → PrI T kx2 o2 i2 n := fun n hn => by
    by_cases g : n = k
    · subst g
      unfold PrI
      rw [hik.1, hik.2]
      refine ⟨kpc_Sm hLS.1, kpc_Sm hLS.2, kpc_sc hy, fun j hj => kpc_0 (hxz j (Or.inr hj)), kpc_ne (by rw [hxk]; decide), fun g2 => ?_, fun f hf g2 => ?_⟩
      · by_cases g3 : hi y < 0
        · exfalso
          rw [show kpc y y = y from if_pos g3] at g2
          omega
        · rw [(kpc_top hLS.1 g3).1, e2, if_neg g3, cset_eq]
      · rw [(hlow f hf).2] at g2
        exact kpc_0 (hxz f (Or.inl ⟨hf, g2⟩))
    · have hn2 : n < k := by omega
      obtain ⟨q1, q2, q3, q4, q5, q6, q7⟩ := hP n hn2
      unfold PrI
      rw [(hlow n hn2).1, (hlow n hn2).2]
      refine ⟨q1, q2, q3, q4, q5, fun g2 => ?_, fun f hf g2 => ?_⟩
      · have q8 := q6 g2
        rw [e2]
        split
        · exact q8
        · rw [cset_ne]
          · exact q8
          · intro e
            rcases hL3 with g3 | g3
            · have g3 : hi y < 0 := g3
              omega
            · have g4 : kx (hi y).toNat = none := g3.2
              rw [← e, q8] at g4
              cases g4
      · rw [(hlow f (by omega)).2] at g2
        exact q7 f hf g2
  have hsvs : svs b pA k (kx, o, i, tg, R, rx) = (kx2, o2, i2, conv tg pA, (lowr kx2 o2 i2 R rx).1, (lowr kx2 o2 i2 R rx).2) := by
    rw [e2, eo, ei]
    show (if hi (lowr kx o i (am tg 32002 b k) (mono k)).1 < 0 then kx else cset kx (hi (lowr kx o i (am tg 32002 b k) (mono k)).1).toNat (some k), _, _, _, _, _) = _
    rw [hyx]
  obtain ⟨R2, r2, hR2⟩ : ∃ R2 r2, low kx2 o2 i2 (hi R + 1).toNat R rx = (R2, r2) := ⟨_, _, rfl⟩
  have hlR := hi_lo R
  have hM := low_sp (Fr := fun f => (f < k + 1 ∧ hi (i2 f) < 0) ∨ k + 1 ≤ f) (kept_sp hK2 hP2 (Nat.le_refl (k + 1))) (hi R + 1).toNat R rx (by omega)
  have hMS := low_Sm hK2 (hi R + 1).toNat R rx (by omega) hS.1 hS.2
  rw [hR2] at hM hMS
  obtain ⟨hM1, hM2, hM3⟩ := hM
  have hM3 := hM3 (fun j hj => hi_zero hS.1 (by omega))
  have hlo : lowr kx2 o2 i2 R rx = (R2, r2) := hR2
  rw [hsvs, hlo]
  refine ⟨⟨by show conv tg pA = conv (pw a k) pA; rw [h1], hK2, hP2, hMS, fun j => ?_, fun j hj => ?_, fun f hf2 g2 => ?_⟩, ?_⟩
  · have m1 : R2 j - lc T (k + 1) r2 j = R j - lc T (k + 1) rx j := hM1 j
    have m2 : lc T (k + 1) rx = lc T k rx := lc_more (by omega) (fun f hf => hx f hf)
    rw [m2, hR j] at m1
    show R2 j = c j + lc T (k + 1) r2 j
    grind
  · have : r2 j = rx j := hM2 j (Or.inr hj)
    show r2 j = 0
    rw [this]; exact hx j (by omega)
  · have g2 : hi (i2 f) < 0 := g2
    have : r2 f = rx f := hM2 f (Or.inl ⟨hf2, g2⟩)
    show r2 f = 0
    rw [this]
    by_cases e : f = k
    · rw [e]; exact hx k (by omega)
    · rw [(hlow f (by omega)).2] at g2
      exact hf f (by omega) g2
  · rcases hM3 with g | g
    · exact Or.inl g
    · exact Or.inr g.2
theorem hi_of {v : Po} {p : Int} (hS : Sm v) (hp : 0 ≤ p) (h1 : v p.toNat ≠ 0) (h2 : ∀ j : Nat, p < (j : Int) → v j = 0) : hi v = p := by
  have : p < 33 := by
    by_cases g : p < 33
    · exact g
    · exact absurd (hS p.toNat (by omega)) h1
  exact hi_eq (by omega) this (fun _ => h1) h2
/-- a combination's highest power is that of a pair -/
theorem head_in {T : Nat → Po} {kx : Nat → Option Nat} {o i : Nat → Po} {k : Nat} (hP : ∀ n : Nat, n < k → PrI T kx o i n) : ∀ (n : Nat) (v y : Po), n ≤ k → Sm v → v = lc T n y → 0 ≤ hi v → ∃ m : Nat, m < n ∧ 0 ≤ hi (i m) ∧ hi (i m) = hi v
  | 0, v, y, _, hS, hv, h0 => by
    exfalso
    have := hi_ne h0
    rw [hv] at this
    exact this rfl
  | n + 1, v, y, hn, hS, hv, h0 => by
    obtain ⟨q1, q2, q3, q4, q5, q6, q7⟩ := hP n (by omega)
    obtain ⟨z, hz⟩ : ∃ z, z = y n * ivq (o n n) := ⟨_, rfl⟩
    have hzo : o n n * z = y n := by
      have := ivq_mul q5
      rw [hz]; grind
    obtain ⟨y2, hy2⟩ : ∃ y2 : Po, y2 = fun f => y f + o n f * -z := ⟨_, rfl⟩
    obtain ⟨v2, hv2⟩ : ∃ v2 : Po, v2 = fun j => v j + i n j * -z := ⟨_, rfl⟩
    have hS2 : Sm v2 := fun j hj => by rw [hv2]; show v j + i n j * -z = 0; rw [hS j hj, q1 j hj]; grind
    have hl2 : v2 = lc T n y2 := by
      have e1 : lc T (n + 1) y2 = v2 := by
        rw [hy2, lc_add, ← hv, ← q3, hv2]
      have e2 : y2 n = 0 := by rw [hy2]; show y n + o n n * -z = 0; grind
      rw [← e1]
      funext j
      show sm (fun f => y2 f * T f j) n + y2 n * T n j = sm _ n
      rw [e2]; grind
    have hvv : ∀ j, v j = v2 j + i n j * z := fun j => by rw [hv2]; show v j = v j + i n j * -z + i n j * z; grind
    have up : (∃ m : Nat, m < n ∧ 0 ≤ hi (i m) ∧ hi (i m) = hi v) → ∃ m : Nat, m < n + 1 ∧ 0 ≤ hi (i m) ∧ hi (i m) = hi v := fun ⟨m, h1, h2⟩ => ⟨m, by omega, h2⟩
    by_cases g1 : z = 0 ∨ hi (i n) < 0
    · have e : v = v2 := funext (fun j => by
        rw [hvv j]
        rcases g1 with g1 | g1
        · rw [g1]; grind
        · rw [hi_zero q1 (show hi (i n) < (j : Int) by omega)]; grind)
      exact up (head_in hP n v y2 (by omega) hS (by rw [e]; exact hl2) h0)
    · have gz : z ≠ 0 := fun e => g1 (Or.inl e)
      have gi : 0 ≤ hi (i n) := by omega
      have hne : i n (hi (i n)).toNat * z ≠ 0 := fun e => by
        rcases fq_dom e with e | e
        · exact hi_ne gi e
        · exact gz e
      have here : (∀ j : Nat, hi (i n) ≤ (j : Int) → v2 j = 0) → ∃ m : Nat, m < n + 1 ∧ 0 ≤ hi (i m) ∧ hi (i m) = hi v := fun hz2 => ⟨n, by omega, gi, (hi_of hS gi (by rw [hvv, hz2 _ (by omega)]; intro e; exact hne (by grind)) (fun j hj => by rw [hvv, hz2 j (by omega), hi_zero q1 hj]; grind)).symm⟩
      by_cases g2 : hi v2 < 0
      · exact here (fun j _ => hi_zero hS2 (by omega))
      · obtain ⟨m, m1, m2, m3⟩ := head_in hP n v2 y2 (by omega) hS2 hl2 (by omega)
        have hd : hi (i m) ≠ hi (i n) := fun e => by
          have k1 := (hP m (by omega)).2.2.2.2.2.1 m2
          have k2 := q6 gi
          rw [e, k2] at k1
          cases k1
          omega
        by_cases g3 : hi v2 < hi (i n)
        · exact here (fun j hj => hi_zero hS2 (by omega))
        · refine up ⟨m, m1, m2, ?_⟩
          rw [m3]
          exact (hi_of hS (by omega) (by rw [hvv, hi_zero q1 (by omega)]; intro e; exact hi_ne (show 0 ≤ hi v2 by omega) (by grind)) (fun j hj => by rw [hvv, hi_zero hS2 hj, hi_zero q1 (by omega)]; grind)).symm
theorem sv_I {a b0 c : Po} {o i : Nat → Po} (hS : Sm a ∧ Sm b0 ∧ Sm c) (h4 : hi a ≤ 4 ∧ hi b0 ≤ 4) : ∀ k : Nat, k ≤ 21 → SvI (Tc a b0) a c k (sv (mvp b0 32002) pA (fun _ => none, o, i, a, c, con 0) k) ∧ (1 ≤ k → hi (sv (mvp b0 32002) pA (fun _ => none, o, i, a, c, con 0) k).2.2.2.2.1 < 0 ∨ (sv (mvp b0 32002) pA (fun _ => none, o, i, a, c, con 0) k).1 (hi (sv (mvp b0 32002) pA (fun _ => none, o, i, a, c, con 0) k).2.2.2.2.1).toNat = none)
  | 0, _ => ⟨SvI_0 hS.2.2, fun h => absurd h (by omega)⟩
  | k + 1, h => by
    have ih := (sv_I (o := o) (i := i) hS h4 k (by omega)).1
    have := svs_I (col_eq a b0 (show k < 33 by omega)) (Tc_Sm ⟨hS.1, hS.2.1⟩ h4 (by omega)) (by omega) ih
    exact ⟨this.1, fun _ => this.2⟩
theorem sv_no {a b0 c : Po} {o i : Nat → Po} (hS : Sm a ∧ Sm b0 ∧ Sm c) (h4 : hi a ≤ 4 ∧ hi b0 ≤ 4) {k : Nat} (hk : k ≤ 21) (hk1 : 1 ≤ k) (h0 : 0 ≤ hi (sv (mvp b0 32002) pA (fun _ => none, o, i, a, c, con 0) k).2.2.2.2.1) : ¬ inS (Tc a b0) k c := by
  obtain ⟨h1, h2⟩ := sv_I (o := o) (i := i) hS h4 k hk
  have h2 := h2 hk1
  generalize sv (mvp b0 32002) pA (fun _ => none, o, i, a, c, con 0) k = s at *
  obtain ⟨kx, o, i, tg, R, rx⟩ := s
  obtain ⟨-, hK, hP, hSR, hR, hx, hf⟩ := h1
  intro ⟨y, hy⟩
  have h0 : 0 ≤ hi R := h0
  have e : R = lc (Tc a b0) k (fun f => y f + rx f * 1) := by
    rw [lc_add]
    funext j
    have := hR j
    have this : R j = c j + lc (Tc a b0) k rx j := this
    have e2 : c j = lc (Tc a b0) k y j := congrFun hy j
    show R j = lc (Tc a b0) k y j + lc (Tc a b0) k rx j * 1
    rw [this, e2]; grind
  obtain ⟨m, m1, m2, m3⟩ := head_in hP k R _ (Nat.le_refl k) hSR.1 e h0
  have k1 := (hP m m1).2.2.2.2.2.1 m2
  rcases h2 with g | g
  · have g : hi R < 0 := g
    omega
  · have g : kx (hi R).toNat = none := g
    have k1 : kx (hi (i m)).toNat = some m := k1
    have m3 : hi (i m) = hi R := m3
    rw [m3, g] at k1
    cases k1
theorem EqR_sol {a b0 c : Po} {d : Int} {x : Po} (h : EqR a b0 c d x) (hS : Sm a ∧ Sm b0 ∧ Sm c) (h4 : hi a ≤ 4 ∧ hi b0 ≤ 4) : SolOk (Tc a b0) c d x := by
  obtain ⟨o, i, K, hK, h1, h2, h3⟩ := h
  rcases h1 with ⟨k, e1, e2, e3⟩ | ⟨e1, e2, e3⟩
  · right
    subst e1
    have hno : k = 0 ∨ ¬ inS (Tc a b0) k c := by
      by_cases g : k = 0
      · exact Or.inl g
      · exact Or.inr (sv_no hS h4 (by omega) (by omega) (h2 k (by omega) (by omega)))
    obtain ⟨q1, -⟩ := sv_I (o := o) (i := i) hS h4 (k + 1) hK
    clear h2
    generalize sv (mvp b0 32002) pA (fun _ => none, o, i, a, c, con 0) (k + 1) = s at *
    obtain ⟨kx, o, i, tg, R, rx⟩ := s
    obtain ⟨-, hKp, hP, hSR, hR, hx, hf⟩ := q1
    have e3 : hi R < 0 := e3
    have h3 : x = sc rx 32002 := h3
    have hSR : Sm R ∧ Sm rx := hSR
    have e9 : (32002 : Fq) = -1 := by decide
    refine ⟨k, e2, by omega, ?_, fun f hf2 => ?_, fun f hf2 hin => ?_, hno⟩
    · rw [h3, lc_sc]
      funext j
      have r1 : R j = c j + lc (Tc a b0) (k + 1) rx j := hR j
      rw [hi_zero hSR.1 (show hi R < (j : Int) by omega)] at r1
      show c j = lc (Tc a b0) (k + 1) rx j * 32002
      rw [e9]; grind
    · have : rx f = 0 := hx f (by omega)
      rw [h3]; unfold sc; rw [this]; grind
    · have hfree : hi (i f) < 0 := by
        by_cases g : hi (i f) < 0
        · exact g
        · exfalso
          obtain ⟨p1, p2, p3, p4, p5, p6, p7⟩ := hP f (by omega)
          have p1 : Sm (i f) := p1
          have p3 : i f = lc (Tc a b0) (f + 1) (o f) := p3
          obtain ⟨y, hy⟩ := hin
          have e : i f = lc (Tc a b0) f (fun n => o f n + y n * o f f) := by
            rw [lc_add]
            funext j
            have r1 : i f j = sm (fun n => o f n * Tc a b0 n j) f + o f f * Tc a b0 f j := congrFun p3 j
            have r2 : Tc a b0 f j = lc (Tc a b0) f y j := congrFun hy j
            show i f j = sm (fun n => o f n * Tc a b0 n j) f + lc (Tc a b0) f y j * o f f
            rw [r1, r2]; grind
          have g0 : 0 ≤ hi (i f) := by omega
          obtain ⟨m, m1, m2, m3⟩ := head_in hP f (i f) _ (by omega) p1 e g0
          have k1 : kx (hi (i m)).toNat = some m := (hP m (by omega)).2.2.2.2.2.1 m2
          have k2 : kx (hi (i f)).toNat = some f := p6 g0
          have m3 : hi (i m) = hi (i f) := m3
          rw [m3, k2] at k1
          cases k1
          omega
      have : rx f = 0 := hf f (by omega) hfree
      rw [h3]; unfold sc; rw [this]; grind
  · left
    subst e1
    exact ⟨e2, sv_no hS h4 (by omega) (by omega) e3⟩
