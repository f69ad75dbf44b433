/-! the common divisor does not ask which side comes first -/
def rdv (b : Po) (u : Fq) (hb : Nat) : Nat → Po → Po
  | 0, a => a
  | n + 1, a => rdv b u hb n (am a (-(a (hb + n) * u)) b n)
theorem dv_1 (b : Po) (u : Fq) (hb : Nat) : ∀ (n : Nat) (a g : Po), (dv b u hb n a g).1 = rdv b u hb n a
  | 0, _, _ => rfl
  | n + 1, a, g => dv_1 b u hb n _ _
theorem rdv_lin (b : Po) (u : Fq) (hb : Nat) (p q : Fq) : ∀ (n : Nat) (a c : Po), rdv b u hb n (fun j => a j * p + c j * q) = fun j => rdv b u hb n a j * p + rdv b u hb n c j * q
  | 0, _, _ => rfl
  | n + 1, a, c => by
    show rdv b u hb n (am (fun j => a j * p + c j * q) (-((a (hb + n) * p + c (hb + n) * q) * u)) b n) = _
    have e : am (fun j => a j * p + c j * q) (-((a (hb + n) * p + c (hb + n) * q) * u)) b n = fun j => am a (-(a (hb + n) * u)) b n j * p + am c (-(c (hb + n) * u)) b n j * q := by
      funext j
      unfold am
      split <;> grind
    rw [e, rdv_lin b u hb p q n]
    rfl
theorem rdv_more (b : Po) (u : Fq) (hb n : Nat) : ∀ (m : Nat) (a : Po), (∀ j : Nat, hb + n ≤ j → a j = 0) → rdv b u hb (n + m) a = rdv b u hb n a
  | 0, _, _ => rfl
  | m + 1, a, h => by
    show rdv b u hb (n + m) (am a (-(a (hb + (n + m)) * u)) b (n + m)) = _
    rw [h (hb + (n + m)) (by omega), show (0 * u : Fq) = 0 by grind, am_0]
    exact rdv_more b u hb n m a h
theorem rdv_sb (b : Po) (u v w : Fq) (hb : Nat) (h : v * w = 1) : ∀ (n : Nat) (a : Po), rdv (sc b v) (u * w) hb n a = rdv b u hb n a
  | 0, _ => rfl
  | n + 1, a => by
    show rdv (sc b v) (u * w) hb n (am a (-(a (hb + n) * (u * w))) (sc b v) n) = rdv b u hb n (am a (-(a (hb + n) * u)) b n)
    rw [show am a (-(a (hb + n) * (u * w))) (sc b v) n = am a (-(a (hb + n) * u)) b n from by
      funext j; unfold am sc
      split
      · grind
      · rfl]
    exact rdv_sb b u v w hb h n _
theorem rem_r {a b : Po} (hSa : Sm a) (hb : 0 ≤ hi b) : rem a b = rdv b (ivq (nm b (hi b))) (hi b).toNat 40 a := by
  have hl := hi_lo a
  have hl2 := hi_lo b
  unfold rem dvs
  rw [dv_1]
  have hN : dvN a b ≤ 40 := by unfold dvN; omega
  obtain ⟨m, hm⟩ : ∃ m, 40 = dvN a b + m := ⟨40 - dvN a b, by omega⟩
  rw [hm]
  exact (rdv_more b _ _ _ m a (fun j hj => hi_zero hSa (by unfold dvN at hj; omega))).symm
theorem rem_lin {a c b : Po} (hS : Sm a ∧ Sm c) (hb : 0 ≤ hi b) (p q : Fq) : rem (fun j => a j * p + c j * q) b = fun j => rem a b j * p + rem c b j * q := by
  rw [rem_r hS.1 hb, rem_r hS.2 hb, rem_r (fun j hj => by show a j * p + c j * q = 0; rw [hS.1 j hj, hS.2 j hj]; grind) hb]
  exact rdv_lin _ _ _ p q 40 a c
theorem ivq_mm {x y : Fq} (hx : x ≠ 0) (hy : y ≠ 0) : ivq (x * y) = ivq x * ivq y := by
  have h1 := ivq_mul hx
  have h2 := ivq_mul hy
  have h3 : x * y ≠ 0 := fun e => by
    rcases fq_dom e with e | e
    · exact hx e
    · exact hy e
  have h4 := ivq_mul h3
  grind
theorem nm_sc {b : Po} (hS : Sm b) {v : Fq} (hv : v ≠ 0) (hb : 0 ≤ hi b) : nm (sc b v) (hi (sc b v)) = nm b (hi b) * v := by
  rw [sc_hi hS hv, nm_pos hb, nm_pos hb]; rfl
theorem rem_sb {a b : Po} (hS : Sm a ∧ Sm b) (hb : 0 ≤ hi b) {v : Fq} (hv : v ≠ 0) : rem a (sc b v) = rem a b := by
  rw [rem_r hS.1 (by rw [sc_hi hS.2 hv]; exact hb), rem_r hS.1 hb, nm_sc hS.2 hv hb, sc_hi hS.2 hv, ivq_mm (nm_ne hb) hv]
  exact rdv_sb b _ v (ivq v) _ (ivq_mul hv) 40 a
theorem rem_sa {a b : Po} (hS : Sm a) (hb : 0 ≤ hi b) (v : Fq) : rem (sc a v) b = sc (rem a b) v := by
  have e : sc a v = fun j => a j * v + a j * 0 := by funext j; unfold sc; grind
  rw [e, rem_lin ⟨hS, hS⟩ hb]
  funext j; unfold sc; grind
theorem rem_eqd {a b : Po} (hb : 0 ≤ hi b) (h : hi a = hi b) : rem a b = fun j => a j + b j * -(a (hi b).toNat * ivq (nm b (hi b))) := by
  have hN : dvN a b = 1 := by unfold dvN; omega
  unfold rem dvs
  rw [dv_1, hN]
  show am a (-(a ((hi b).toNat + 0) * ivq (nm b (hi b)))) b 0 = _
  rw [am0]
  rfl
theorem rem_self {b : Po} (hb : 0 ≤ hi b) : rem b b = fun _ => 0 := by
  rw [rem_eqd hb rfl]
  funext j
  have h1 := ivq_mul (nm_ne hb)
  rw [nm_pos hb] at h1 ⊢
  grind
theorem hi_scz {a : Po} {v : Fq} (hS : Sm a) (h : hi a < 0) : hi (sc a v) < 0 := hi_lt (x := 0) (by omega) (fun j _ => by unfold sc; rw [hi_zero hS (by omega)]; grind)
theorem scS {a : Po} (hS : Sm a) (v : Fq) : Sm (sc a v) := fun j hj => by unfold sc; rw [hS j hj]; grind
theorem eu_sc : ∀ (n : Nat) (a b : Po) (p q : Fq), p ≠ 0 → q ≠ 0 → Sm a → Sm b → ∃ r : Fq, r ≠ 0 ∧ eu n (sc a p) (sc b q) = sc (eu n a b) r
  | 0, a, b, p, q, hp, _, _, _ => ⟨p, hp, rfl⟩
  | n + 1, a, b, p, q, hp, hq, ha, hb => by
    by_cases g : hi b < 0
    · rw [eu_zero _ _ _ g, eu_zero _ _ _ (hi_scz hb g)]
      exact ⟨p, hp, rfl⟩
    · have g0 : 0 ≤ hi b := by omega
      obtain ⟨r, h1, h2⟩ := eu_sc n b (rem a b) q p hq hp hb (rem_Sm ha hb g0)
      refine ⟨r, h1, ?_⟩
      show (if hi (sc b q) < 0 then sc a p else eu n (sc b q) (rem (sc a p) (sc b q))) = sc (if hi b < 0 then a else eu n b (rem a b)) r
      rw [if_neg g, if_neg (by rw [sc_hi hb hq]; exact g), rem_sb ⟨scS ha p, hb⟩ g0 hq, rem_sa ha g0]
      exact h2
theorem mon_sc {g : Po} (hS : Sm g) (h : 0 ≤ hi g) {r : Fq} (hr : r ≠ 0) : mon (sc g r) = mon g := by
  unfold mon
  rw [nm_sc hS hr h, ivq_mm (nm_ne h) hr]
  have h1 := ivq_mul hr
  funext j
  unfold sc
  grind
theorem eu_fuel : ∀ (n m : Nat) (a b : Po), Sm a → Sm b → hi b + 1 ≤ (n : Int) → hi b + 1 ≤ (m : Int) → eu n a b = eu m a b
  | 0, m, a, b, _, _, hn, _ => by rw [eu_zero 0 a b (by omega), eu_zero m a b (by omega)]
  | n + 1, 0, a, b, _, _, _, hm => by rw [eu_zero 0 a b (by omega), eu_zero (n + 1) a b (by omega)]
  | n + 1, m + 1, a, b, ha, hb, hn, hm => by
    by_cases g : hi b < 0
    · rw [eu_zero _ a b g, eu_zero _ a b g]
    · have hl := rem_lt ha hb (show 0 ≤ hi b by omega)
      show (if hi b < 0 then a else eu n b (rem a b)) = (if hi b < 0 then a else eu m b (rem a b))
      rw [if_neg g, if_neg g]
      exact eu_fuel n m b (rem a b) hb (rem_Sm ha hb (by omega)) (by omega) (by omega)
theorem eu_swap {a b : Po} (hSa : Sm a) (hSb : Sm b) (hb : 0 ≤ hi b) (h : hi a < hi b) : eu 66 a b = eu 66 b a := by
  have hl := hi_lo a
  show (if hi b < 0 then a else eu 65 b (rem a b)) = _
  rw [if_neg (by omega), rem_small h]
  exact eu_fuel 65 66 b a hSb hSa (by omega) (by omega)
theorem gm_comm {a b : Po} (hSa : Sm a) (hSb : Sm b) (ha : 0 ≤ hi a) (hb : 0 ≤ hi b) : gm a b = gm b a := by
  unfold gm
  rcases Int.lt_trichotomy (hi a) (hi b) with g | g | g
  · rw [eu_swap hSa hSb hb g]
  · have hm := ivq_mul (hi_ne ha)
    have hm2 := ivq_mul (hi_ne hb)
    obtain ⟨p, hp⟩ : ∃ p, p = a (hi b).toNat * ivq (nm b (hi b)) := ⟨_, rfl⟩
    obtain ⟨q, hq⟩ : ∃ q, q = b (hi a).toNat * ivq (nm a (hi a)) := ⟨_, rfl⟩
    have hpq : p * q = 1 := by
      rw [hp, hq, nm_pos hb, nm_pos ha]
      rw [g] at hm ⊢
      grind
    have hp0 : p ≠ 0 := fun e => by rw [e] at hpq; exact absurd hpq (by rw [show (0 * q : Fq) = 0 by grind]; decide)
    have hq0 : q ≠ 0 := fun e => by rw [e] at hpq; exact absurd hpq (by rw [show (p * 0 : Fq) = 0 by grind]; decide)
    have hq1 : -q ≠ 0 := fun e => hq0 (by grind)
    obtain ⟨r, hr⟩ : ∃ r, r = rem a b := ⟨_, rfl⟩
    have er : r = fun j => a j + b j * -p := by rw [hr, rem_eqd hb g, hp]
    have er2 : rem b a = sc r (-q) := by
      rw [rem_eqd ha g.symm, er, ← hq]
      funext j
      unfold sc
      grind
    have hSr : Sm r := by rw [hr]; exact rem_Sm hSa hSb hb
    have ea : a = fun j => b j * p + r j * 1 := by rw [er]; funext j; grind
    show mon (if hi b < 0 then a else eu 65 b (rem a b)) = mon (if hi a < 0 then b else eu 65 a (rem b a))
    rw [if_neg (by omega), if_neg (by omega), ← hr, er2]
    by_cases gr : hi r < 0
    · rw [eu_zero _ _ _ gr, eu_zero _ _ _ (hi_scz hSr gr)]
      have e : a = sc b p := by
        rw [ea]; funext j; unfold sc
        rw [hi_zero hSr (show hi r < (j : Int) by omega)]; grind
      rw [e, mon_sc hSb hb hp0]
    · have gr0 : 0 ≤ hi r := by omega
      show mon (if hi r < 0 then b else eu 64 r (rem b r)) = mon (if hi (sc r (-q)) < 0 then a else eu 64 (sc r (-q)) (rem a (sc r (-q))))
      rw [if_neg gr, if_neg (by rw [sc_hi hSr hq1]; exact gr), rem_sb ⟨hSa, hSr⟩ gr0 hq1]
      have e : rem a r = sc (rem b r) p := by
        have e1 : rem a r = rem (fun j => b j * p + r j * 1) r := congrArg (fun z => rem z r) ea
        rw [e1, rem_lin ⟨hSb, hSr⟩ gr0, rem_self gr0]
        funext j; unfold sc; grind
      rw [e]
      obtain ⟨w, hw, he⟩ := eu_sc 64 r (rem b r) (-q) p hq1 hp0 hSr (rem_Sm hSb hSr gr0)
      rw [he, mon_sc (eu_Sm _ _ _ hSr (rem_Sm hSb hSr gr0)) (eu_pos _ _ _ gr0) hw]
  · rw [eu_swap hSb hSa ha g]
