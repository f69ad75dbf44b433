/-! rows of a table -/
def rs (t y : Po) (i : Nat) : Fq := sm (fun c => y c * t (22 * i + c)) 22
def Rel (t y : Po) : Prop := ∀ i : Nat, i < 64 → rs t y i = 0
def sg (r a i : Nat) : Nat := if i = a then r else if i = r then a else i
theorem sg_lt {r a i : Nat} (hr : r < 64) (ha : a < 64) (hi : i < 64) : sg r a i < 64 := by unfold sg; split <;> (try split) <;> omega
theorem sg_sg (r a i : Nat) : sg r a (sg r a i) = i := by
  unfold sg
  by_cases g1 : i = a
  · rw [if_pos g1]
    by_cases g2 : r = a
    · rw [if_pos g2]; omega
    · rw [if_neg g2, if_pos rfl]; omega
  · rw [if_neg g1]
    by_cases g2 : i = r
    · rw [if_pos g2, if_pos rfl]; omega
    · rw [if_neg g2, if_neg g1, if_neg g2]
theorem brW_at {t : Po} {r a i c : Nat} (hc : c < 22) : brW t r a (22 * i + c) = t (22 * sg r a i + c) := by
  unfold brW sg
  rw [show (22 * i + c) / 22 = i by omega, show (22 * i + c) % 22 = c by omega]
  split
  · rfl
  · split <;> rfl
theorem brS_at {t : Po} {r i c : Nat} {u : Fq} (hc : c < 22) : brS t r u (22 * i + c) = if i = r then t (22 * i + c) * u else t (22 * i + c) := by
  unfold brS
  rw [show (22 * i + c) / 22 = i by omega]
theorem brE_at {t : Po} {r k i c : Nat} (hc : c < 22) (hi : i < 64) : brE t r k (22 * i + c) = if i = r then t (22 * i + c) else t (22 * i + c) + -(t (22 * i + k)) * t (22 * r + c) := by
  unfold brE
  rw [show (22 * i + c) / 22 = i by omega, show (22 * i + c) % 22 = c by omega]
  by_cases g : i = r
  · rw [if_pos g, if_pos (Or.inl g)]
  · rw [if_neg g, if_neg (by omega)]
theorem Rel_W {t y : Po} {r a : Nat} (hr : r < 64) (ha : a < 64) : Rel (brW t r a) y ↔ Rel t y := by
  have e : ∀ i, rs (brW t r a) y i = rs t y (sg r a i) := fun i => sm_congr (fun c hc => by rw [brW_at hc])
  constructor
  · intro h i hi
    have := h (sg r a i) (sg_lt hr ha hi)
    rw [e, sg_sg] at this
    exact this
  · intro h i hi
    rw [e]; exact h _ (sg_lt hr ha hi)
theorem Rel_S {t y : Po} {r : Nat} {u : Fq} (hu : u ≠ 0) : Rel (brS t r u) y ↔ Rel t y := by
  have e : ∀ i, rs (brS t r u) y i = if i = r then rs t y i * u else rs t y i := fun i => by
    split
    · rename_i g
      unfold rs
      rw [← sm_mulr]
      exact sm_congr (fun c hc => by rw [brS_at hc, if_pos g]; grind)
    · rename_i g
      exact sm_congr (fun c hc => by rw [brS_at hc, if_neg g])
  constructor
  · intro h i hi
    have h1 := h i hi
    rw [e] at h1
    split at h1
    · have h3 : u * ivq u = 1 := ivq_mul hu
      grind
    · exact h1
  · intro h i hi
    rw [e]
    split
    · rw [h i hi]; grind
    · exact h i hi
theorem Rel_E {t y : Po} {r k : Nat} (hr : r < 64) : Rel (brE t r k) y ↔ Rel t y := by
  have e : ∀ i, i < 64 → rs (brE t r k) y i = if i = r then rs t y i else rs t y i + rs t y r * -(t (22 * i + k)) := fun i hi => by
    split
    · rename_i g
      exact sm_congr (fun c hc => by rw [brE_at hc hi, if_pos g])
    · rename_i g
      unfold rs
      rw [← sm_mulr, ← sm_addf]
      exact sm_congr (fun c hc => by rw [brE_at hc hi, if_neg g]; grind)
  constructor
  · intro h i hi
    have h0 : rs t y r = 0 := by have := h r hr; rw [e r hr, if_pos rfl] at this; exact this
    have h1 := h i hi
    rw [e i hi] at h1
    split at h1
    · exact h1
    · rw [h0] at h1; grind
  · intro h i hi
    rw [e i hi]
    split
    · exact h i hi
    · rw [h i hi, h r hr]; grind
theorem brT_at {t : Po} {r a k i c : Nat} (hc : c < 22) (hk : k < 22) : brT t r a k (22 * i + c) = if i = r then t (22 * a + c) * ivq (t (22 * a + k)) else t (22 * sg r a i + c) := by
  have es : sg r a r = a := by unfold sg; by_cases g : r = a <;> simp [g]
  unfold brT
  rw [brS_at hc, brW_at hc, brW_at hk, es]
  split
  · rename_i g; rw [g, es]
  · rfl
theorem brO_r {t : Po} {r a k c : Nat} (hr : r < 64) (hc : c < 22) (hk : k < 22) : brO t r a k (22 * r + c) = t (22 * a + c) * ivq (t (22 * a + k)) := by
  unfold brO
  rw [brE_at hc hr, if_pos rfl, brT_at hc hk, if_pos rfl]
theorem brO_i {t : Po} {r a k i c : Nat} (hi : i < 64) (hir : i ≠ r) (hc : c < 22) (hk : k < 22) : brO t r a k (22 * i + c) = t (22 * sg r a i + c) + -(t (22 * sg r a i + k)) * (t (22 * a + c) * ivq (t (22 * a + k))) := by
  unfold brO
  rw [brE_at hc hi, if_neg hir, brT_at hc hk, if_neg hir, brT_at hk hk, if_neg hir, brT_at hc hk, if_pos rfl]
theorem Rel_O {t y : Po} {r a k : Nat} (hr : r < 64) (ha : a < 64) (hk : k < 22) (hne : t (22 * a + k) ≠ 0) : Rel (brO t r a k) y ↔ Rel t y := by
  have es : sg r a r = a := by unfold sg; by_cases g : r = a <;> simp [g]
  unfold brO
  rw [Rel_E hr]
  unfold brT
  rw [Rel_S (by rw [brW_at hk, es]; exact ivq_ne hne), Rel_W hr ha]
/-- the columns below k are brought out, r of them have a row -/
def GjC (t : Po) (rw0 : Nat → Int) (cnt : Nat → Nat) (c : Nat) : Prop := (rw0 c = -1 ∧ cnt (c + 1) = cnt c ∧ ∀ i : Nat, cnt c ≤ i → i < 64 → t (22 * i + c) = 0) ∨ (rw0 c = (cnt c : Int) ∧ cnt (c + 1) = cnt c + 1 ∧ t (22 * cnt c + c) = 1 ∧ ∀ i : Nat, i < 64 → i ≠ cnt c → t (22 * i + c) = 0)
def Gj (t0 t : Po) (r k : Nat) (rw0 : Nat → Int) : Prop := (∀ y : Po, Rel t y ↔ Rel t0 y) ∧ r ≤ k ∧ ∃ cnt : Nat → Nat, cnt 0 = 0 ∧ cnt k = r ∧ ∀ c : Nat, c < k → GjC t rw0 cnt c
theorem cnt_le {t : Po} {rw0 : Nat → Int} {cnt : Nat → Nat} {k : Nat} (h : ∀ c : Nat, c < k → GjC t rw0 cnt c) : ∀ n c : Nat, c + n ≤ k → cnt c ≤ cnt (c + n)
  | 0, c, _ => Nat.le_refl _
  | n + 1, c, hn => by
    have h1 := cnt_le h n c (by omega)
    have h2 : cnt (c + n) ≤ cnt (c + n + 1) := by
      rcases h (c + n) (by omega) with ⟨-, h3, -⟩ | ⟨-, h3, -⟩ <;> omega
    show cnt c ≤ cnt (c + n + 1)
    omega
theorem cnt_mono {t : Po} {rw0 : Nat → Int} {cnt : Nat → Nat} {k : Nat} (h : ∀ c : Nat, c < k → GjC t rw0 cnt c) {c e : Nat} (hce : c ≤ e) (he : e ≤ k) : cnt c ≤ cnt e := by
  have := cnt_le h (e - c) c (by omega)
  rwa [show c + (e - c) = e by omega] at this
theorem Gj_0 {t0 : Po} {rw0 : Nat → Int} : Gj t0 t0 0 0 rw0 := ⟨fun _ => Iff.rfl, Nat.le_refl _, fun _ => 0, rfl, rfl, fun c hc => absurd hc (by omega)⟩
theorem GjC_set {t : Po} {rw0 : Nat → Int} {cnt : Nat → Nat} {k c : Nat} {v : Int} {n : Nat} (hc : c < k) (h : GjC t rw0 cnt c) : GjC t (cset rw0 k v) (cset cnt (k + 1) n) c := by
  unfold GjC
  rw [cset_ne (show c ≠ k by omega), cset_ne (show c + 1 ≠ k + 1 by omega), cset_ne (show c ≠ k + 1 by omega)]
  exact h
theorem Gj_free {t0 t : Po} {r k : Nat} {rw0 : Nat → Int} (h : Gj t0 t r k rw0) (hz : ∀ i : Nat, r ≤ i → i < 64 → t (22 * i + k) = 0) : Gj t0 t r (k + 1) (cset rw0 k (-1)) := by
  obtain ⟨h1, h2, cnt, h3, h4, h5⟩ := h
  refine ⟨h1, by omega, cset cnt (k + 1) r, by rw [cset_ne (by omega)]; exact h3, cset_eq, fun c hc => ?_⟩
  by_cases g : c = k
  · left
    rw [g, cset_eq, cset_eq, cset_ne (show k ≠ k + 1 by omega), h4]
    exact ⟨rfl, rfl, hz⟩
  · exact GjC_set (by omega) (h5 c (by omega))
theorem Gj_step {t0 t : Po} {r a k : Nat} {rw0 : Nat → Int} (h : Gj t0 t r k rw0) (hk : k ≤ 20) (ha : a < 64) (hra : r ≤ a) (hne : t (22 * a + k) ≠ 0) : Gj t0 (brO t r a k) (r + 1) (k + 1) (cset rw0 k (r : Int)) := by
  obtain ⟨h1, h2, cnt, h3, h4, h5⟩ := h
  have hr : r < 64 := by omega
  have hsg : ∀ i : Nat, i ≠ r → sg r a i = if i = a then r else i := fun i hi => by unfold sg; rw [if_neg hi]
  refine ⟨fun y => (Rel_O hr ha (by omega) hne).trans (h1 y), by omega, cset cnt (k + 1) (r + 1), by rw [cset_ne (by omega)]; exact h3, cset_eq, fun c hc => ?_⟩
  by_cases g : c = k
  · right
    rw [g, cset_eq, cset_eq, cset_ne (show k ≠ k + 1 by omega), h4]
    refine ⟨rfl, rfl, ?_, fun i hi hir => ?_⟩
    · rw [brO_r hr (by omega) (by omega)]; exact ivq_mul hne
    · rw [brO_i hi hir (by omega) (by omega)]
      have h6 : t (22 * a + k) * ivq (t (22 * a + k)) = 1 := ivq_mul hne
      rw [h6]; grind
  · have hck : c < k := by omega
    have hm : cnt (c + 1) ≤ r := by rw [← h4]; exact cnt_mono h5 (by omega) (Nat.le_refl k)
    refine GjC_set hck ?_
    rcases h5 c hck with ⟨e1, e2, e3⟩ | ⟨e1, e2, e3, e4⟩
    · left
      refine ⟨e1, e2, fun i hi hi2 => ?_⟩
      have za : t (22 * a + c) = 0 := e3 a (by omega) ha
      by_cases hir : i = r
      · rw [hir, brO_r hr (by omega) (by omega), za]; grind
      · have zi : t (22 * sg r a i + c) = 0 := by
          rw [hsg i hir]; split
          · exact e3 r (by omega) hr
          · exact e3 i hi hi2
        rw [brO_i hi2 hir (by omega) (by omega), za, zi]; grind
    · right
      have za : t (22 * a + c) = 0 := e4 a ha (by omega)
      refine ⟨e1, e2, ?_, fun i hi2 hic => ?_⟩
      · rw [brO_i (by omega) (by omega) (by omega) (by omega), za, hsg _ (by omega), if_neg (by omega), e3]; grind
      · by_cases hir : i = r
        · rw [hir, brO_r hr (by omega) (by omega), za]; grind
        · have zi : t (22 * sg r a i + c) = 0 := by
            rw [hsg i hir]; split
            · exact e4 r hr (by omega)
            · exact e4 i hi2 hic
          rw [brO_i hi2 hir (by omega) (by omega), za, zi]; grind
/-- what the table is made of -/
def TbOk (t0 : Po) (T : Nat → Po) (c : Po) : Prop := (∀ i : Nat, i < 64 → ∀ k : Nat, k < 21 → t0 (22 * i + k) = T k i) ∧ (∀ i : Nat, i < 64 → t0 (22 * i + 21) = c i) ∧ (∀ i : Nat, 64 ≤ i → c i = 0 ∧ ∀ k : Nat, k < 21 → T k i = 0)
theorem Gj_below {t0 t : Po} {r K : Nat} {rw0 : Nat → Int} (h : Gj t0 t r K rw0) {c i : Nat} (hc : c < K) (hi : r ≤ i) (hi2 : i < 64) : t (22 * i + c) = 0 := by
  obtain ⟨-, -, cnt, -, h4, h5⟩ := h
  have hm : cnt (c + 1) ≤ r := by rw [← h4]; exact cnt_mono h5 (by omega) (Nat.le_refl K)
  rcases h5 c hc with ⟨e1, e2, e3⟩ | ⟨e1, e2, e3, e4⟩
  · exact e3 i (by omega) hi2
  · exact e4 i hi2 (by omega)
theorem Gj_in {t0 t : Po} {r K : Nat} {rw0 : Nat → Int} {T : Nat → Po} {c : Po} (h : Gj t0 t r K rw0) (hK : K ≤ 21) (hT : TbOk t0 T c) (hin : inS T K c) {i : Nat} (hi : r ≤ i) (hi2 : i < 64) : t (22 * i + 21) = 0 := by
  obtain ⟨y, hy⟩ := hin
  obtain ⟨y2, ey⟩ : ∃ y2 : Po, y2 = fun j => if j < K then y j else if j = 21 then -1 else 0 := ⟨_, rfl⟩
  have e21 : y2 21 = -1 := by rw [ey]; show (if 21 < K then y 21 else if 21 = 21 then -1 else 0) = _; rw [if_neg (by omega), if_pos rfl]
  have elt : ∀ j, j < K → y2 j = y j := fun j hj => by rw [ey]; exact if_pos hj
  have ege : ∀ j, K ≤ j → j < 21 → y2 j = 0 := fun j h1 h2 => by rw [ey]; show (if j < K then y j else if j = 21 then -1 else 0) = _; rw [if_neg (by omega), if_neg (by omega)]
  have hR0 : Rel t0 y2 := fun i hi => by
    show sm (fun c => y2 c * t0 (22 * i + c)) 21 + y2 21 * t0 (22 * i + 21) = 0
    rw [sm_more hK (fun j h1 h2 => by rw [ege j h1 h2]; grind), sm_congr (g := fun j => y j * T j i) (fun j hj => by rw [elt j hj, hT.1 i hi j (by omega)]), e21, hT.2.1 i hi, hy]
    show lc T K y i + -1 * lc T K y i = 0
    grind
  have h6 : sm (fun c => y2 c * t (22 * i + c)) 21 + y2 21 * t (22 * i + 21) = 0 := (h.1 y2).mpr hR0 i hi2
  rw [e21, sm_zero (fun j hj => by
    by_cases g : j < K
    · rw [Gj_below h g hi hi2]; grind
    · rw [ege j (by omega) hj]; grind)] at h6
  grind
theorem Gj_piv {t0 t : Po} {r K : Nat} {rw0 : Nat → Int} {T : Nat → Po} {c : Po} (h : Gj t0 t r K rw0) (hK : K ≤ 21) (hT : TbOk t0 T c) {k : Nat} (hk : k < K) (hin : inS T k (T k)) : rw0 k = -1 := by
  obtain ⟨h1, h2, cnt, h3, h4, h5⟩ := h
  have hm : cnt (k + 1) ≤ r := by rw [← h4]; exact cnt_mono h5 (by omega) (Nat.le_refl K)
  rcases h5 k hk with ⟨e1, -, -⟩ | ⟨e1, e2, e3, e4⟩
  · exact e1
  · exfalso
    obtain ⟨y, hy⟩ := hin
    obtain ⟨y2, ey⟩ : ∃ y2 : Po, y2 = fun j => if j < k then y j else if j = k then -1 else 0 := ⟨_, rfl⟩
    have ek : y2 k = -1 := by rw [ey]; show (if k < k then y k else if k = k then -1 else 0) = _; rw [if_neg (by omega), if_pos rfl]
    have elt : ∀ j, j < k → y2 j = y j := fun j hj => by rw [ey]; exact if_pos hj
    have ege : ∀ j, k < j → y2 j = 0 := fun j h1 => by rw [ey]; show (if j < k then y j else if j = k then -1 else 0) = _; rw [if_neg (by omega), if_neg (by omega)]
    have hR0 : Rel t0 y2 := fun i hi => by
      show sm (fun c => y2 c * t0 (22 * i + c)) 22 = 0
      rw [sm_more (show k + 1 ≤ 22 by omega) (fun j h1 h2 => by rw [ege j (by omega)]; grind)]
      show sm (fun c => y2 c * t0 (22 * i + c)) k + y2 k * t0 (22 * i + k) = 0
      rw [sm_congr (g := fun j => y j * T j i) (fun j hj => by rw [elt j hj, hT.1 i hi j (by omega)]), ek, hT.1 i hi k (by omega), hy]
      show lc T k y i + -1 * lc T k y i = 0
      grind
    have h6 : sm (fun c => y2 c * t (22 * cnt k + c)) 22 = 0 := (h1 y2).mpr hR0 (cnt k) (by omega)
    rw [sm_more (show k + 1 ≤ 22 by omega) (fun j h1 h2 => by rw [ege j (by omega)]; grind)] at h6
    have h7 : sm (fun c => y2 c * t (22 * cnt k + c)) k + y2 k * t (22 * cnt k + k) = 0 := h6
    rw [ek, e3, sm_zero (fun j hj => by
      have hz : t (22 * cnt k + j) = 0 := by
        have hm2 : cnt (j + 1) ≤ cnt k := cnt_mono h5 (by omega) (by omega)
        rcases h5 j (by omega) with ⟨d1, d2, d3⟩ | ⟨d1, d2, d3, d4⟩
        · exact d3 (cnt k) (by omega) (by omega)
        · exact d4 (cnt k) (by omega) (by omega)
      rw [hz]; grind)] at h7
    exact absurd h7 (by decide)
theorem Gj_sol {t0 t : Po} {r k : Nat} {rw0 : Nat → Int} {T : Nat → Po} {c x : Po} (h : Gj t0 t r (k + 1) rw0) (hk : k ≤ 20) (hT : TbOk t0 T c) (hz : ∀ i : Nat, r ≤ i → i < 64 → t (22 * i + 21) = 0) (hx : ∀ i : Nat, i ≤ k → x i = if rw0 i = -1 then 0 else t (22 * (rw0 i).toNat + 21)) : c = lc T (k + 1) x := by
  obtain ⟨h1, h2, cnt, h3, h4, h5⟩ := h
  have hsum : ∀ i : Nat, i < 64 → ∀ n : Nat, n ≤ k + 1 → sm (fun j => x j * t (22 * i + j)) n = if i < cnt n then t (22 * i + 21) else 0 := fun i hi n => by
    induction n with
    | zero => intro _; rw [h3, if_neg (by omega)]; rfl
    | succ n ih =>
      intro hn
      show sm (fun j => x j * t (22 * i + j)) n + x n * t (22 * i + n) = _
      rw [ih (by omega), hx n (by omega)]
      rcases h5 n (by omega) with ⟨e1, e2, e3⟩ | ⟨e1, e2, e3, e4⟩
      · rw [if_pos e1, e2]; grind
      · rw [show (if rw0 n = -1 then (0 : Fq) else t (22 * (rw0 n).toNat + 21)) = t (22 * cnt n + 21) from by rw [if_neg (by omega), e1, Int.toNat_natCast], e2]
        by_cases g : i = cnt n
        · rw [if_neg (by omega), if_pos (by omega), g, e3]; grind
        · rw [e4 i hi g]
          by_cases g2 : i < cnt n
          · rw [if_pos g2, if_pos (by omega)]; grind
          · rw [if_neg g2, if_neg (by omega)]; grind
  obtain ⟨y2, ey⟩ : ∃ y2 : Po, y2 = fun j => if j < k + 1 then x j else if j = 21 then -1 else 0 := ⟨_, rfl⟩
  have e21 : y2 21 = -1 := by rw [ey]; show (if 21 < k + 1 then x 21 else if 21 = 21 then -1 else 0) = _; rw [if_neg (by omega), if_pos rfl]
  have elt : ∀ j, j < k + 1 → y2 j = x j := fun j hj => by rw [ey]; exact if_pos hj
  have ege : ∀ j, k + 1 ≤ j → j < 21 → y2 j = 0 := fun j h1 h2 => by rw [ey]; show (if j < k + 1 then x j else if j = 21 then -1 else 0) = _; rw [if_neg (by omega), if_neg (by omega)]
  have hR : Rel t y2 := fun i hi => by
    show sm (fun c => y2 c * t (22 * i + c)) 21 + y2 21 * t (22 * i + 21) = 0
    rw [sm_more (show k + 1 ≤ 21 by omega) (fun j h1 h2 => by rw [ege j h1 h2]; grind), sm_congr (g := fun j => x j * t (22 * i + j)) (fun j hj => by rw [elt j hj]), hsum i hi (k + 1) (by omega), e21, h4]
    by_cases g : i < r
    · rw [if_pos g]; grind
    · rw [if_neg g, hz i (by omega) hi]; grind
  have hR0 := (h1 y2).mp hR
  funext i
  by_cases g : i < 64
  · have h6 : sm (fun c => y2 c * t0 (22 * i + c)) 21 + y2 21 * t0 (22 * i + 21) = 0 := hR0 i g
    rw [sm_more (show k + 1 ≤ 21 by omega) (fun j h1 h2 => by rw [ege j h1 h2]; grind), sm_congr (g := fun j => x j * T j i) (fun j hj => by rw [elt j hj, hT.1 i g j (by omega)]), e21, hT.2.1 i g] at h6
    show c i = sm (fun j => x j * T j i) (k + 1)
    grind
  · rw [(hT.2.2 i (by omega)).1]
    exact (sm_zero (fun j hj => by rw [(hT.2.2 i (by omega)).2 j (by omega)]; grind)).symm
