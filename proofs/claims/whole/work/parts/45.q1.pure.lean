theorem sm_shift (f : Nat → Fq) : ∀ n : Nat, sm f (n + 1) = f 0 + sm (fun i => f (i + 1)) n
  | 0 => by show (0 : Fq) + f 0 = f 0 + 0; grind
  | n + 1 => by
    show sm f (n + 1) + f (n + 1) = f 0 + (sm (fun i => f (i + 1)) n + f (n + 1))
    rw [sm_shift f n]; grind
theorem sm_refl (f : Nat → Fq) : ∀ n : Nat, sm f n = sm (fun i => f (n - 1 - i)) n
  | 0 => rfl
  | n + 1 => by
    rw [sm_shift (fun i => f (n + 1 - 1 - i)) n]
    show sm f n + f n = f (n + 1 - 1 - 0) + sm (fun i => f (n + 1 - 1 - (i + 1))) n
    rw [sm_refl f n, sm_congr (f := fun i => f (n + 1 - 1 - (i + 1))) (g := fun i => f (n - 1 - i)) (fun i hi => by show f _ = f _; congr 1; omega), show n + 1 - 1 - 0 = n by omega]
    grind
def Tc (a b : Po) (k : Nat) : Po := fun i => conv a (mvp (mono k) 1) i - conv (mvp b 32002) (mono k) i
theorem mono_hi {k : Nat} (h : k < 33) : hi (mono k) = (k : Int) := hi_eq (by omega) (by omega) (fun _ => by show mono k ((k : Int)).toNat ≠ 0; rw [Int.toNat_natCast]; unfold mono; rw [cset_eq]; decide) (fun j hj => by unfold mono; rw [cset_ne (by omega)]; unfold con; split <;> rfl)
/-! combinations of columns; the one answer; the reference's elimination -/
theorem sm_mulr (f : Nat → Fq) (c : Fq) : ∀ n : Nat, sm (fun i => f i * c) n = sm f n * c
  | 0 => by show (0 : Fq) = 0 * c; grind
  | n + 1 => by show sm _ n + f n * c = (sm f n + f n) * c; rw [sm_mulr f c n]; grind
theorem sm_addf (f g : Nat → Fq) : ∀ n : Nat, sm (fun i => f i + g i) n = sm f n + sm g n
  | 0 => by show (0 : Fq) = 0 + 0; grind
  | n + 1 => by show sm _ n + (f n + g n) = (sm f n + f n) + (sm g n + g n); rw [sm_addf f g n]; grind
def lc (T : Nat → Po) (n : Nat) (y : Po) : Po := fun j => sm (fun i => y i * T i j) n
def inS (T : Nat → Po) (n : Nat) (v : Po) : Prop := ∃ y : Po, v = lc T n y
def SolOk (T : Nat → Po) (c : Po) (d : Int) (x : Po) : Prop :=
  (d = -1 ∧ ¬ inS T 21 c) ∨ ∃ k : Nat, d = (k : Int) ∧ k ≤ 20 ∧ c = lc T (k + 1) x ∧ (∀ i : Nat, k < i → x i = 0) ∧ (∀ i : Nat, i ≤ k → inS T i (T i) → x i = 0) ∧ (k = 0 ∨ ¬ inS T k c)
theorem lc_add (T : Nat → Po) (n : Nat) (y z : Po) (u : Fq) : lc T n (fun i => y i + z i * u) = fun j => lc T n y j + lc T n z j * u := by
  funext j
  show sm _ n = sm _ n + sm _ n * u
  rw [← sm_mulr, ← sm_addf]
  exact sm_congr (fun i _ => by grind)
theorem lc_more {T : Nat → Po} {n m : Nat} {y : Po} (h : n ≤ m) (hy : ∀ i : Nat, n ≤ i → y i = 0) : lc T m y = lc T n y := by
  funext j
  show sm _ m = sm _ n
  exact sm_more h (fun i h1 _ => by rw [hy i h1]; grind)
theorem lc_congr {T : Nat → Po} {n : Nat} {y z : Po} (h : ∀ i : Nat, i < n → y i = z i) : lc T n y = lc T n z := by
  funext j
  show sm _ n = sm _ n
  exact sm_congr (fun i hi => by rw [h i hi])
theorem inS_mono {T : Nat → Po} {n m : Nat} {v : Po} (h : n ≤ m) (hv : inS T n v) : inS T m v := by
  obtain ⟨y, rfl⟩ := hv
  refine ⟨fun i => if i < n then y i else 0, ?_⟩
  rw [lc_more h (fun i hi => if_neg (by omega))]
  exact lc_congr (fun i hi => (if_pos hi).symm)
theorem lc_zero {T : Nat → Po} {y : Po} : ∀ n : Nat, (∀ j : Nat, lc T n y j = 0) → (∀ i : Nat, i < n → inS T i (T i) → y i = 0) → ∀ i : Nat, i < n → y i = 0
  | 0, _, _, i, hi => absurd hi (by omega)
  | n + 1, h, hd, i, hi => by
    have h0 : y n = 0 := by
      by_cases g : y n = 0
      · exact g
      · refine hd n (by omega) ⟨fun i => y i * -(ivq (y n)), ?_⟩
        funext j
        have h1 : sm (fun i => y i * T i j) n + y n * T n j = 0 := h j
        have h2 : lc T n (fun i => y i * -(ivq (y n))) j = sm (fun i => y i * T i j) n * -(ivq (y n)) := by
          show sm _ n = _
          rw [← sm_mulr]; exact sm_congr (fun i _ => by grind)
        rw [h2]
        have h3 : y n * ivq (y n) = 1 := ivq_mul g
        grind
    by_cases e : i = n
    · rw [e]; exact h0
    · refine lc_zero n (fun j => ?_) (fun i hi => hd i (by omega)) i (by omega)
      have h1 : sm (fun i => y i * T i j) n + y n * T n j = 0 := h j
      rw [h0] at h1
      show sm (fun i => y i * T i j) n = 0
      grind
theorem SolOk_one {T : Nat → Po} {c : Po} {d d' : Int} {x x' : Po} (h : SolOk T c d x) (h' : SolOk T c d' x') : d = d' ∧ (0 ≤ d → x = x') := by
  rcases h with ⟨h1, h2⟩ | ⟨k, h1, h2, h3, h4, h5, h6⟩ <;> rcases h' with ⟨g1, g2⟩ | ⟨k', g1, g2, g3, g4, g5, g6⟩
  · exact ⟨by omega, fun h => by omega⟩
  · exact absurd (inS_mono (show k' + 1 ≤ 21 by omega) ⟨x', g3⟩) h2
  · exact absurd (inS_mono (show k + 1 ≤ 21 by omega) ⟨x, h3⟩) g2
  · have e : k = k' := by
      rcases Nat.lt_trichotomy k k' with g | g | g
      · rcases g6 with g6 | g6
        · omega
        · exact absurd (inS_mono (show k + 1 ≤ k' by omega) ⟨x, h3⟩) g6
      · exact g
      · rcases h6 with h6 | h6
        · omega
        · exact absurd (inS_mono (show k' + 1 ≤ k by omega) ⟨x', g3⟩) h6
    subst e
    refine ⟨by omega, fun _ => funext (fun i => ?_)⟩
    by_cases g : k < i
    · rw [h4 i g, g4 i g]
    · have h7 := lc_zero (T := T) (y := fun i => x i + x' i * -1) (k + 1) (fun j => by
        rw [lc_add]
        show lc T (k + 1) x j + lc T (k + 1) x' j * -1 = 0
        rw [← h3, ← g3]; grind) (fun i hi hin => by
        show x i + x' i * -1 = 0
        rw [h5 i (by omega) hin, g5 i (by omega) hin]; grind) i (by omega)
      have h8 : x i + x' i * -1 = 0 := h7
      grind
theorem Tc_Sm {a b : Po} {k : Nat} (hS : Sm a ∧ Sm b) (h4 : hi a ≤ 4 ∧ hi b ≤ 4) (hk : k < 21) : Sm (Tc a b k) := fun j hj => by
  have h1 := conv_Sm hS.1 (mvp_Sm (mono_Sm (show k < 33 by omega)) 1) (by rw [mvp_hi (mono_Sm (by omega)), mono_hi (by omega)]; omega) j hj
  have h2 := conv_Sm (mvp_Sm hS.2 32002) (mono_Sm (show k < 33 by omega)) (by rw [mvp_hi hS.2, mono_hi (by omega)]; omega) j hj
  unfold Tc
  rw [h1, h2]; grind
theorem SolOk_d {T : Nat → Po} {c x : Po} {d : Int} (h : SolOk T c d x) : d = -1 ∨ (0 ≤ d ∧ d ≤ 20) := by
  rcases h with ⟨h, -⟩ | ⟨k, h1, h2, -⟩
  · exact Or.inl h
  · right; omega
theorem SolOk_x {T : Nat → Po} {c x : Po} {d : Int} (h : SolOk T c d x) (hd : 0 ≤ d) (hc : 0 ≤ hi c) : Sm x ∧ 0 ≤ hi x ∧ hi x ≤ 20 := by
  rcases h with ⟨h, -⟩ | ⟨k, h1, h2, h3, h4, -⟩
  · omega
  · have hS : Sm x := fun j hj => h4 j (by omega)
    refine ⟨hS, ?_, ?_⟩
    · by_cases g : 0 ≤ hi x
      · exact g
      · exfalso
        have hz : ∀ j : Nat, x j = 0 := fun j => hi_zero hS (by omega)
        have hcz : c (hi c).toNat = 0 := by
          have e : c (hi c).toNat = lc T (k + 1) x (hi c).toNat := congrFun h3 _
          rw [e]
          exact sm_zero (fun i _ => by rw [hz i]; grind)
        exact hi_ne hc hcz
    · have := hi_lt (a := x) (x := 21) (by omega) (fun j hj => h4 j (by omega))
      omega
