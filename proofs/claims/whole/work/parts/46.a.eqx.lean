/-! what is known of the answer that the class finds -/
theorem EqR_d {a b0 c : Po} {d : Int} {x : Po} (h : EqR a b0 c d x) : d = -1 ∨ (0 ≤ d ∧ d ≤ 20) := by
  obtain ⟨o, i, K, h1, h2, -⟩ := h
  rcases h2 with ⟨k, h3, h4, -⟩ | ⟨-, h4, -⟩
  · right; omega
  · left; exact h4
theorem EqR_x {a b0 c : Po} {d : Int} {x : Po} (h : EqR a b0 c d x) (hd : 0 ≤ d) (hSa : Sm a ∧ Sm b0 ∧ Sm c) (ha : 0 ≤ hi a ∧ hi a ≤ 4) (hb : 0 ≤ hi b0 ∧ hi b0 ≤ 4) (hc : 0 ≤ hi c) : Sm x ∧ 0 ≤ hi x ∧ hi x ≤ 20 := SolOk_x (EqR_sol h hSa ⟨ha.2, hb.2⟩) hd hc
theorem perm_ix {α : Type} {l l' : List α} (is : List Nat) (n : Nat) (hn : l.length = n) (hp : is.Perm (List.range n)) (h : is.map (fun i => l[i]?) = l'.map some) : l'.Perm l := by
  have e1 : (List.range n).map (fun i => l[i]?) = l.map some := by
    subst hn
    apply List.ext_getElem?
    intro i
    by_cases g : i < l.length
    · simp [g]
    · simp [g]
  have p1 := hp.map (fun i => l[i]?)
  rw [h, e1] at p1
  have p2 := p1.filterMap (fun z => z)
  have e2 : ∀ l : List α, (l.map some).filterMap (fun z => z) = l := by
    intro l
    induction l with
    | nil => rfl
    | cons a t ih =>
      show a :: (t.map some).filterMap (fun z => z) = a :: t
      rw [ih]
  rw [e2, e2] at p2
  exact p2
