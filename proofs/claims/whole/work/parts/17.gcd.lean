/-! division and the common divisor, as both programs work them out: what is known of the degrees -/
theorem hi_lt {a : Po} {x : Int} (hx : 0 ≤ x) (h : ∀ j : Nat, x ≤ (j : Int) → a j = 0) : hi a < x := by
  by_cases g : hi a < x
  · exact g
  · exact absurd (h (hi a).toNat (by omega)) (hi_ne (by omega))
theorem dv_Sm {b : Po} {u : Fq} (hSb : Sm b) (hb : 0 ≤ hi b) : ∀ (n : Nat) (c g : Po), Sm c → Sm g → hi b + (n : Int) ≤ 33 → Sm (dv b u (hi b).toNat n c g).1 ∧ Sm (dv b u (hi b).toNat n c g).2
  | 0, c, g, hc, hg, _ => ⟨hc, hg⟩
  | n + 1, c, g, hc, hg, h => dv_Sm hSb hb n _ _ (am_Sm hc (fun j hj => hi_zero hSb (by omega))) (Sm_set hg (by omega) _) (by omega)
theorem dvN_le {a b : Po} (hb : 0 ≤ hi b) : hi b + (dvN a b : Int) ≤ 33 := by
  have h1 := hi_lo a
  have h2 := hi_lo b
  unfold dvN
  omega
theorem rem_Sm {a b : Po} (hSa : Sm a) (hSb : Sm b) (hb : 0 ≤ hi b) : Sm (rem a b) := (dv_Sm hSb hb _ _ _ hSa (Sm_con 0) (dvN_le hb)).1
theorem quo_Sm {a b : Po} (hSa : Sm a) (hSb : Sm b) (hb : 0 ≤ hi b) : Sm (quo a b) := (dv_Sm hSb hb _ _ _ hSa (Sm_con 0) (dvN_le hb)).2
theorem nm_hi {b : Po} (hb : 0 ≤ hi b) : nm b (hi b) = b (hi b).toNat := nm_pos hb
theorem nm_ne {b : Po} (hb : 0 ≤ hi b) : nm b (hi b) ≠ 0 := by rw [nm_hi hb]; exact hi_ne hb
theorem dv_low {b : Po} {u : Fq} {hb : Nat} (hu : b hb * u = 1) (hz : ∀ j : Nat, hb < j → b j = 0) : ∀ (n : Nat) (c g : Po), (∀ j : Nat, hb + n ≤ j → c j = 0) → ∀ j : Nat, hb ≤ j → (dv b u hb n c g).1 j = 0
  | 0, c, g, h, j, hj => h j (by omega)
  | n + 1, c, g, h, j, hj => by
    refine dv_low hu hz n _ _ (fun i hi => ?_) j hj
    unfold am
    rw [if_pos (by omega)]
    by_cases e : i = hb + n
    · rw [e, show hb + n - n = hb by omega]
      grind
    · rw [h i (by omega), hz (i - n) (by omega)]
      grind
theorem rem_lt {a b : Po} (hSa : Sm a) (hSb : Sm b) (hb : 0 ≤ hi b) : hi (rem a b) < hi b := by
  refine hi_lt hb (fun j hj => ?_)
  refine dv_low (u := ivq (nm b (hi b))) (by rw [nm_hi hb]; exact ivq_mul (hi_ne hb)) (fun j h => hi_zero hSb (by omega)) _ a (con 0) (fun i hi0 => hi_zero hSa ?_) j (by omega)
  unfold dvN at hi0
  omega
theorem rem_small {a b : Po} (h : hi a < hi b) : rem a b = a := by
  unfold rem dvs
  rw [show dvN a b = 0 by unfold dvN; omega]
  rfl
theorem dv_q {b : Po} {u : Fq} {hb : Nat} : ∀ (n : Nat) (c g : Po) (j : Nat), n ≤ j → (dv b u hb n c g).2 j = g j
  | 0, c, g, j, _ => rfl
  | n + 1, c, g, j, h => by
    show (dv b u hb n _ _).2 j = g j
    rw [dv_q n _ _ j (by omega), cset_ne (by omega)]
theorem quo_big {a b : Po} {j : Nat} (h : dvN a b ≤ j) : quo a b j = 0 := by
  unfold quo dvs
  rw [dv_q _ _ _ j h]
  unfold con
  split <;> rfl
theorem quo_top {a b : Po} (hb : 0 ≤ hi b) (hab : hi b ≤ hi a) : quo a b (hi a - hi b).toNat = a (hi a).toNat * ivq (nm b (hi b)) := by
  unfold quo dvs
  rw [show dvN a b = (hi a - hi b).toNat + 1 by unfold dvN; omega]
  show (dv b _ _ (hi a - hi b).toNat _ _).2 _ = _
  rw [dv_q _ _ _ _ (Nat.le_refl _), cset_eq, show (hi b).toNat + (hi a - hi b).toNat = (hi a).toNat by omega]
theorem quo_hi {a b : Po} (hb : 0 ≤ hi b) (hab : hi b ≤ hi a) : hi (quo a b) = hi a - hi b := by
  have h1 := hi_lo a
  refine hi_eq (by omega) (by omega) (fun _ => ?_) (fun j hj => quo_big ?_)
  · rw [quo_top hb hab]
    exact fun e => (fq_dom e).elim (hi_ne (by omega)) (ivq_ne (nm_ne hb))
  · unfold dvN
    omega
/-- 1 at its highest power -/
def Mo (a : Po) : Prop := nm a (hi a) = 1
theorem Mo.pos {a : Po} (h : Mo a) : 0 ≤ hi a := by
  have h1 := hi_lo a
  by_cases g : 0 ≤ hi a
  · exact g
  · unfold Mo at h
    rw [nm_neg (by omega)] at h
    exact absurd h (by decide)
theorem Mo_con : Mo (con 1) := by unfold Mo; rw [hi_con, if_neg (by decide)]; rfl
theorem quo_Mo {a b : Po} (ha : Mo a) (hb : Mo b) (hab : hi b ≤ hi a) : Mo (quo a b) := by
  have h1 := ha.pos
  have h2 := hb.pos
  unfold Mo
  rw [quo_hi h2 hab, nm_pos (by omega), quo_top h2 hab, ← nm_hi h1, show nm a (hi a) = 1 from ha, show nm b (hi b) = 1 from hb, ivq_one]
  rfl
theorem sc_hi {a : Po} (hS : Sm a) {f : Fq} (hf : f ≠ 0) : hi (sc a f) = hi a := by
  have h1 := hi_lo a
  refine hi_eq h1.1 h1.2 (fun g => ?_) (fun j hj => ?_)
  · exact fun e => (fq_dom e).elim (hi_ne g) hf
  · unfold sc
    rw [hi_zero hS hj]
    grind
/-- Euclid -/
def eu : Nat → Po → Po → Po
  | 0, a, _ => a
  | n + 1, a, b => if hi b < 0 then a else eu n b (rem a b)
def mon (g : Po) : Po := sc g (ivq (nm g (hi g)))
def gm (a b : Po) : Po := mon (eu 66 a b)
theorem eu_Sm : ∀ (n : Nat) (a b : Po), Sm a → Sm b → Sm (eu n a b)
  | 0, a, b, ha, _ => ha
  | n + 1, a, b, ha, hb => by
    unfold eu
    split
    · exact ha
    · exact eu_Sm n b (rem a b) hb (rem_Sm ha hb (by omega))
theorem eu_pos : ∀ (n : Nat) (a b : Po), 0 ≤ hi a → 0 ≤ hi (eu n a b)
  | 0, a, b, ha => ha
  | n + 1, a, b, ha => by
    unfold eu
    split
    · exact ha
    · exact eu_pos n b (rem a b) (by omega)
theorem eu_zero (n : Nat) (a b : Po) (h : hi b < 0) : eu n a b = a := by
  cases n with
  | zero => rfl
  | succ n => unfold eu; rw [if_pos h]
theorem eu_le : ∀ (n : Nat) (a b : Po), Sm a → Sm b → 0 ≤ hi b → hi (eu (n + 1) a b) ≤ hi b
  | 0, a, b, ha, hb, h => by
    unfold eu
    rw [if_neg (by omega)]
    show hi b ≤ hi b
    omega
  | n + 1, a, b, ha, hb, h => by
    rw [eu, if_neg (by omega)]
    have h1 := rem_lt ha hb h
    by_cases g : hi (rem a b) < 0
    · rw [eu_zero _ _ _ g]
      omega
    · have h2 := eu_le n b (rem a b) hb (rem_Sm ha hb h) (by omega)
      omega
theorem eu_le2 (n : Nat) {a b : Po} (hSa : Sm a) (hSb : Sm b) (ha : 0 ≤ hi a) (hb : 0 ≤ hi b) : hi (eu (n + 2) a b) ≤ hi a := by
  by_cases g : hi a < hi b
  · rw [eu, if_neg (by omega), rem_small g]
    exact eu_le n b a hSb hSa ha
  · have h9 : hi (eu (n + 2) a b) ≤ hi b := eu_le (n + 1) a b hSa hSb hb
    omega
theorem mon_Sm {g : Po} (h : Sm g) : Sm (mon g) := fun j hj => by unfold mon sc; rw [h j hj]; grind
theorem mon_hi {g : Po} (hS : Sm g) (h : 0 ≤ hi g) : hi (mon g) = hi g := sc_hi hS (ivq_ne (nm_ne h))
theorem mon_Mo {g : Po} (hS : Sm g) (h : 0 ≤ hi g) : Mo (mon g) := by
  unfold Mo
  rw [mon_hi hS h, nm_pos h]
  unfold mon sc
  rw [nm_hi h]
  exact ivq_mul (hi_ne h)
theorem gm_ok {a b : Po} (hSa : Sm a) (hSb : Sm b) (ha : 0 ≤ hi a) (hb : 0 ≤ hi b) : Sm (gm a b) ∧ Mo (gm a b) ∧ hi (gm a b) ≤ hi a ∧ hi (gm a b) ≤ hi b := by
  have h1 := eu_Sm 66 a b hSa hSb
  have h2 := eu_pos 66 a b ha
  have h3 := eu_le 65 a b hSa hSb hb
  have h4 := eu_le2 64 hSa hSb ha hb
  refine ⟨mon_Sm h1, mon_Mo h1 h2, ?_, ?_⟩ <;> (unfold gm; rw [mon_hi h1 h2]; omega)
/-- products of highest numbers -/
theorem sm_one {f : Nat → Fq} {k : Nat} : ∀ {n : Nat}, k < n → (∀ i, i < n → i ≠ k → f i = 0) → sm f n = f k
  | 0, h, _ => absurd h (by omega)
  | n + 1, h, hz => by
    show sm f n + f n = f k
    by_cases e : k = n
    · rw [sm_zero (fun i hi => hz i (by omega) (by omega)), e]
      grind
    · rw [sm_one (by omega) (fun i hi hk => hz i (by omega) hk), hz n (by omega) (by omega)]
      grind
theorem conv_top {a b : Po} (hSa : Sm a) (hSb : Sm b) (ha : 0 ≤ hi a) (hb : 0 ≤ hi b) : conv a b (hi a + hi b).toNat = a (hi a).toNat * b (hi b).toNat := by
  unfold conv
  rw [sm_one (k := (hi b).toNat) (by omega) (fun i h1 h2 => ?_)]
  · rw [show (hi a + hi b).toNat - (hi b).toNat = (hi a).toNat by omega]
  · by_cases g : (hi b).toNat < i
    · rw [hi_zero hSb (by omega)]; grind
    · rw [hi_zero hSa (by omega)]; grind
theorem conv_Sm {a b : Po} (hSa : Sm a) (hSb : Sm b) (h : hi a + hi b < 33) : Sm (conv a b) := fun j hj => conv_hi (x := hi a) (y := hi b) (fun _ g => hi_zero hSa g) (fun _ g => hi_zero hSb g) (by omega)
theorem conv_dg {a b : Po} (hSa : Sm a) (hSb : Sm b) (ha : 0 ≤ hi a) (hb : 0 ≤ hi b) (h : hi a + hi b < 33) : hi (conv a b) = hi a + hi b := by
  refine hi_eq (by omega) h (fun _ => ?_) (fun j hj => conv_hi (x := hi a) (y := hi b) (fun _ g => hi_zero hSa g) (fun _ g => hi_zero hSb g) hj)
  rw [conv_top hSa hSb ha hb]
  exact fun e => (fq_dom e).elim (hi_ne ha) (hi_ne hb)
theorem conv_Mo {a b : Po} (hSa : Sm a) (hSb : Sm b) (ha : Mo a) (hb : Mo b) (h : hi a + hi b < 33) : Mo (conv a b) := by
  have h1 := ha.pos
  have h2 := hb.pos
  unfold Mo
  rw [conv_dg hSa hSb h1 h2 h, nm_pos (by omega), conv_top hSa hSb h1 h2, ← nm_hi h1, ← nm_hi h2, show nm a (hi a) = 1 from ha, show nm b (hi b) = 1 from hb]
  rfl
theorem mvp_Mo {a : Po} (hS : Sm a) (ha : Mo a) (d : Fq) : Mo (mvp a d) := by
  have h1 := ha.pos
  unfold Mo
  rw [mvp_hi hS, nm_pos h1, mvp_keep a d (Nat.le_refl _), ← nm_hi h1]
  exact ha
/-- g with n - k in place of n, step by step -/
def mvk (g : Po) : Nat → Po
  | 0 => g
  | k + 1 => mvp (mvk g k) 32002
theorem mvk_ok {g : Po} (hS : Sm g) (hM : Mo g) : ∀ k : Nat, Sm (mvk g k) ∧ Mo (mvk g k) ∧ hi (mvk g k) = hi g
  | 0 => ⟨hS, hM, rfl⟩
  | k + 1 => by
    obtain ⟨h1, h2, h3⟩ := mvk_ok hS hM k
    exact ⟨mvp_Sm h1 _, mvp_Mo h1 h2 _, (mvp_hi h1 _).trans h3⟩
/-- c times g with n - 1, n - 2 .. n - k in place of n -/
def cmk (c g : Po) : Nat → Po
  | 0 => c
  | k + 1 => conv (cmk c g k) (mvk g (k + 1))
theorem cmk_ok {c g : Po} (hSc : Sm c) (hMc : Mo c) (hS : Sm g) (hM : Mo g) : ∀ k : Nat, hi c + (k : Int) * hi g < 33 → Sm (cmk c g k) ∧ Mo (cmk c g k) ∧ hi (cmk c g k) = hi c + (k : Int) * hi g
  | 0, _ => ⟨hSc, hMc, by show hi c = _; simp⟩
  | k + 1, h => by
    obtain ⟨g1, g2, g3⟩ := mvk_ok hS hM (k + 1)
    have hp := hM.pos
    have e : ((k + 1 : Nat) : Int) * hi g = (k : Int) * hi g + hi g := by rw [Int.natCast_add, Int.add_mul]; simp
    rw [e] at h
    have hlt : hi c + (k : Int) * hi g < 33 := by omega
    obtain ⟨h1, h2, h3⟩ := cmk_ok hSc hMc hS hM k hlt
    refine ⟨conv_Sm h1 g1 (by omega), conv_Mo h1 g1 h2 g2 (by omega), ?_⟩
    show hi (conv _ _) = _
    rw [conv_dg h1 g1 h2.pos g2.pos (by omega), e]
    omega
/-- the split, place by place -/
def spg (h : Nat) (t : Po × Po × Po) : Po := gm t.1 (mvp t.2.1 (cF (h : Int)))
def spn (h : Nat) (t : Po × Po × Po) : Po × Po × Po := (quo t.1 (spg h t), quo t.2.1 (mvk (spg h t) h), cmk t.2.2 (spg h t) h)
def spl (A B : Po) : Nat → Po × Po × Po
  | 0 => (A, B, con 1)
  | h + 1 => spn h (spl A B h)
def SpOk (A B : Po) (t : Po × Po × Po) : Prop := Sm t.1 ∧ Sm t.2.1 ∧ Sm t.2.2 ∧ 0 ≤ hi t.1 ∧ 0 ≤ hi t.2.1 ∧ Mo t.2.2 ∧ hi t.1 ≤ hi A ∧ hi t.2.1 ≤ hi B ∧ hi t.2.2 ≤ 8 * (hi A - hi t.1)
/-- what a ratio is: both sides are not 0, of powers up to 4 -/
def Ra (A B : Po) : Prop := Sm A ∧ Sm B ∧ 0 ≤ hi A ∧ 0 ≤ hi B ∧ hi A ≤ 4 ∧ hi B ≤ 4
theorem spg_ok {A B : Po} {t : Po × Po × Po} (h : Nat) (ht : SpOk A B t) : Sm (spg h t) ∧ Mo (spg h t) ∧ hi (spg h t) ≤ hi t.1 ∧ hi (spg h t) ≤ hi t.2.1 := by
  obtain ⟨s1, s2, s3, p1, p2, m3, l1, l2, l3⟩ := ht
  have h1 := mvp_hi s2 (cF (h : Int))
  have := gm_ok s1 (mvp_Sm s2 (cF (h : Int))) p1 (by omega)
  rw [h1] at this
  exact this
theorem cmk_bd {A B : Po} {t : Po × Po × Po} {h : Nat} (ht : SpOk A B t) (hA : hi A ≤ 4) (hh : h ≤ 8) : ∀ k : Nat, k ≤ h → hi t.2.2 + (k : Int) * hi (spg h t) ≤ 8 * (hi A - (hi t.1 - hi (spg h t))) ∧ hi t.2.2 + (k : Int) * hi (spg h t) < 33 := by
  intro k hk
  obtain ⟨g1, g2, g3, g4⟩ := spg_ok h ht
  have hp := g2.pos
  obtain ⟨s1, s2, s3, p1, p2, m3, l1, l2, l3⟩ := ht
  have e : (k : Int) * hi (spg h t) ≤ 8 * hi (spg h t) := Int.mul_le_mul_of_nonneg_right (by omega) hp
  omega
theorem spn_ok {A B : Po} {t : Po × Po × Po} {h : Nat} (ht : SpOk A B t) (hA : hi A ≤ 4) (hh : h ≤ 8) : SpOk A B (spn h t) := by
  obtain ⟨g1, g2, g3, g4⟩ := spg_ok h ht
  have hb := cmk_bd ht hA hh h (Nat.le_refl h)
  obtain ⟨s1, s2, s3, p1, p2, m3, l1, l2, l3⟩ := ht
  obtain ⟨k1, k2, k3⟩ := mvk_ok g1 g2 h
  obtain ⟨c1, c2, c3⟩ := cmk_ok s3 m3 g1 g2 h hb.2
  have hp := g2.pos
  have q1 := quo_hi hp g3
  have q2 := quo_hi k2.pos (show hi (mvk (spg h t) h) ≤ hi t.2.1 by omega)
  refine ⟨quo_Sm s1 g1 hp, quo_Sm s2 k1 k2.pos, c1, ?_, ?_, c2, ?_, ?_, ?_⟩
  · show 0 ≤ hi (quo _ _); omega
  · show 0 ≤ hi (quo _ _); omega
  · show hi (quo _ _) ≤ _; omega
  · show hi (quo _ _) ≤ _; omega
  · show hi (cmk _ _ _) ≤ 8 * (hi A - hi (quo _ _)); omega
theorem spl_ok {A B : Po} (hR : Ra A B) : ∀ h : Nat, h ≤ 9 → SpOk A B (spl A B h)
  | 0, _ => by
    obtain ⟨h1, h2, h3, h4, h5, h6⟩ := hR
    refine ⟨h1, h2, Sm_con 1, h3, h4, Mo_con, by show hi A ≤ hi A; omega, by show hi B ≤ hi B; omega, ?_⟩
    show hi (con 1) ≤ 8 * (hi A - hi A)
    rw [hi_con, if_neg (by decide)]
    omega
  | h + 1, hh => spn_ok (spl_ok hR h (by omega)) hR.2.2.2.2.1 (by omega)
