/-! class and reference answer alike -/
section AG
variable {E : ev} {c : Nat → Nat} {F : Nat → Nat × Nat × Nat × Nat × Nat} {pr : Nat → Option Nat} {m : Nat → Nat} {A B : Po} {wc wm : va_W} {r : Int32} {a k : Int} {Ex : String}
/-- both hold the same ratio, the reference with the code k -/
def Both (E : ev) (c : Nat → Nat) (F : Nat → Nat × Nat × Nat × Nat × Nat) (pr : Nat → Option Nat) (m : Nat → Nat) (k : Int) (wc wm : va_W) : Prop := ∃ A B : Po, CsX E c F pr A B wc ∧ RmX E m A B k wm
theorem ans_one {s1 s2 s3 t1 t2 t3 x x2 : Po} {d d2 : Int} (hR : Ra A B) (h : AnsR A B s1 s2 s3 d x) (h2 : SolR A B t1 t2 t3 d2 x2) : (t1 = s1 ∧ t2 = s2 ∧ t3 = s3) ∧ d = d2 ∧ (0 ≤ d → x = x2) := by
  obtain ⟨e1, e2⟩ := h
  obtain ⟨g1, g2⟩ := h2
  have okS := spl_ok hR 9 (by omega)
  rw [e1] at okS g1
  obtain ⟨rfl, g3⟩ := Prod.mk.inj g1
  obtain ⟨rfl, rfl⟩ := Prod.mk.inj g3
  have h4 : hi t1 ≤ 4 ∧ hi t2 ≤ 4 := ⟨by have h5 : hi t1 ≤ hi A := okS.2.2.2.2.2.2.1; have := hR.2.2.2.2.1; omega, by have h5 : hi t2 ≤ hi B := okS.2.2.2.2.2.2.2.1; have := hR.2.2.2.2.2; omega⟩
  exact ⟨⟨rfl, rfl, rfl⟩, SolOk_one (EqR_sol e2 ⟨okS.1, okS.2.1, okS.2.2.1⟩ h4) g2⟩
theorem no_sol {s1 s2 s3 x : Po} {d : Int} (hR : Ra A B) (h : AnsR A B s1 s2 s3 d x) (hd : 0 ≤ d) (hn : noS A B) : False := by
  rcases hn with hn | ⟨t1, t2, t3, x2, hn⟩
  · exact hn hR
  · have := (ans_one hR h hn).2.1
    omega
theorem no_ans {s1 s2 s3 x : Po} {d : Int} (hR : Ra A B) (h : SolR A B s1 s2 s3 d x) (hd : 0 ≤ d) (hn : noA A B) : False := by
  rcases hn with hn | ⟨t1, t2, t3, x2, h1, h2⟩
  · exact hn hR
  · have := (ans_one hR ⟨h1, h2⟩ h).2.1
    omega
theorem cl_eq {s1 s2 s3 x : Po} {d : Int} (hR : Ra A B) (h : AnsR A B s1 s2 s3 d x) (hd : 0 ≤ d) : cBot (mvp s2 32002) x s3 = quo s3 (gm s3 (conv (mvp s2 32002) x)) ∧ cTop (mvp s2 32002) x s3 = quo (conv (mvp s2 32002) x) (gm s3 (conv (mvp s2 32002) x)) := by
  obtain ⟨e1, e2⟩ := h
  have okS := spl_ok hR 9 (by omega)
  rw [e1] at okS
  have h1 : hi s1 ≤ 4 := by have h5 : hi s1 ≤ hi A := okS.2.2.2.2.2.2.1; have := hR.2.2.2.2.1; omega
  have h2 : hi s2 ≤ 4 := by have h5 : hi s2 ≤ hi B := okS.2.2.2.2.2.2.2.1; have := hR.2.2.2.2.2; omega
  have p1 : 0 ≤ hi s1 := okS.2.2.2.1
  have p2 : 0 ≤ hi s2 := okS.2.2.2.2.1
  have p3 : 0 ≤ hi s3 := okS.2.2.2.2.2.1.pos
  have hx := EqR_x e2 hd ⟨okS.1, okS.2.1, okS.2.2.1⟩ ⟨p1, h1⟩ ⟨p2, h2⟩ p3
  have hm : hi (mvp s2 32002) = hi s2 := mvp_hi okS.2.1 _
  have hS : Sm (mvp s2 32002) := mvp_Sm okS.2.1 _
  have hcv := conv_Sm hS hx.1 (by omega)
  have hcd := conv_dg hS hx.1 (by omega) hx.2.1 (by omega)
  have hg : gm (conv (mvp s2 32002) x) s3 = gm s3 (conv (mvp s2 32002) x) := gm_comm hcv okS.2.2.1 (by omega) p3
  unfold cBot cTop cdg
  rw [hg]
  exact ⟨rfl, rfl⟩
theorem nN_put {t q v : Int} (h : P7_put E c F pr A B t q v (zI a) wc) (h2 : R8_put E m A B t q v r wm) : r = zI a ∧ Both E c F pr m 0 wc wm := by
  obtain ⟨hq, k1, e1, e2, e3⟩ := h
  rcases h2 with ⟨g1, -, -⟩ | ⟨k2, g1, g2, g3, g4⟩
  · exact absurd hq g1
  · obtain rfl : k1 = k2 := by omega
    exact ⟨g3.trans e2.symm, _, _, e3, g4⟩
theorem nX_put {t q v : Int} (h : X7_put E c F pr A B t q v Ex wc) (hk : (Ex, k) ∈ [(xIO, (1 : Int))]) (h2 : R8_put E m A B t q v r wm) : Both E c F pr m k wc wm := by
  obtain ⟨-, hq, e3⟩ := h
  obtain ⟨-, rfl⟩ := Prod.mk.inj (List.mem_singleton.mp hk)
  rcases h2 with ⟨-, -, g1⟩ | ⟨k2, g1, g2, -⟩
  · exact ⟨_, _, e3, g1⟩
  · exact absurd ⟨by omega, by omega⟩ hq
theorem nN_at {t q : Int} (h : P7_at E c F pr A B t q (zI a) wc) (h2 : R8_at E m A B t q r wm) : r = zI a ∧ Both E c F pr m 0 wc wm := by
  obtain ⟨hq, e2, e3⟩ := h
  rcases h2 with ⟨g1, -, -⟩ | ⟨k2, rfl, g2, g3, g4⟩
  · exact absurd hq g1
  · refine ⟨g3.trans (Eq.trans ?_ e2.symm), _, _, e3, g4⟩
    have hnm : ∀ b : Po, nm b (k2 : Int) = b k2 := fun b => by unfold nm; rw [if_neg (by omega), Int.toNat_natCast]
    rw [hnm]
theorem nX_at {t q : Int} (h : X7_at E c F pr A B t q Ex wc) (hk : (Ex, k) ∈ [(xIO, (1 : Int))]) (h2 : R8_at E m A B t q r wm) : Both E c F pr m k wc wm := by
  obtain ⟨-, hq, e3⟩ := h
  obtain ⟨-, rfl⟩ := Prod.mk.inj (List.mem_singleton.mp hk)
  rcases h2 with ⟨-, -, g1⟩ | ⟨k2, g1, g2, -⟩
  · exact ⟨_, _, e3, g1⟩
  · exact absurd ⟨by omega, by omega⟩ hq
theorem two_1 {x y : String} (hne : x ≠ y) (hk : (x, k) ∈ [(x, (1 : Int)), (y, 2)]) : k = 1 := by
  rcases List.mem_cons.mp hk with h | h
  · exact (Prod.mk.inj h).2
  · exact absurd (Prod.mk.inj (List.mem_singleton.mp h)).1 hne
theorem two_2 {x y : String} (hne : x ≠ y) (hk : (y, k) ∈ [(x, (1 : Int)), (y, 2)]) : k = 2 := by
  rcases List.mem_cons.mp hk with h | h
  · exact absurd (Prod.mk.inj h).1.symm hne
  · exact (Prod.mk.inj (List.mem_singleton.mp h)).2
theorem ne_SA : xIS ≠ xIA := by decide +kernel
theorem ne_OS : xIO ≠ xIS := by decide +kernel
theorem nN_found {q : Int} (h : P7_found E c F pr A B q (zI a) wc) (h2 : R8_found E m A B q r wm) : r = zI a ∧ Both E c F pr m 0 wc wm := by
  obtain ⟨hR, ⟨k1, e1, e0, e2⟩, e3⟩ := h
  rcases h2 with ⟨g1, -, -⟩ | ⟨-, g1, -, -⟩ | ⟨-, k2, g1, g2, g3, g4⟩
  · exact absurd hR g1
  · exact absurd ⟨by omega, by omega⟩ g1
  · obtain rfl : k1 = k2 := by omega
    exact ⟨g3.trans e2.symm, _, _, e3, g4⟩
theorem nX_found {q : Int} (h : X7_found E c F pr A B q Ex wc) (hk : (Ex, k) ∈ [(xIS, (1 : Int)), (xIA, 2)]) (h2 : R8_found E m A B q r wm) : Both E c F pr m k wc wm := by
  obtain ⟨⟨rfl, hq⟩ | ⟨rfl, hR, hq⟩, e3⟩ := h
  · obtain rfl := two_1 ne_SA hk
    rcases h2 with ⟨-, -, g1⟩ | ⟨g1, -⟩ | ⟨g1, -⟩
    · exact ⟨_, _, e3, g1⟩
    · exact absurd g1 hq
    · exact absurd g1 hq
  · obtain rfl := two_2 ne_SA hk
    rcases h2 with ⟨g1, -⟩ | ⟨-, -, -, g1⟩ | ⟨-, k2, g1, g2, -⟩
    · exact absurd hR g1
    · exact ⟨_, _, e3, g1⟩
    · exact absurd ⟨by omega, by omega⟩ hq
theorem nN_degree {q : Int} (h : P7_degree E c F pr A B q (zI a) wc) (h2 : R8_degree E m A B q r wm) : r = zI a ∧ Both E c F pr m 0 wc wm := by
  obtain ⟨⟨hR, hq⟩, e2, e3⟩ := h
  rcases h2 with ⟨g1, -, -⟩ | ⟨-, g1, -, -⟩ | ⟨-, g2, g3, g4⟩
  · exact absurd hR g1
  · exact absurd hq g1
  · exact ⟨g3.trans e2.symm, _, _, e3, g4⟩
theorem nX_degree {q : Int} (h : X7_degree E c F pr A B q Ex wc) (hk : (Ex, k) ∈ [(xIS, (1 : Int)), (xIA, 2)]) (h2 : R8_degree E m A B q r wm) : Both E c F pr m k wc wm := by
  obtain ⟨⟨rfl, hq⟩ | ⟨rfl, hR, hq⟩, e3⟩ := h
  · obtain rfl := two_1 ne_SA hk
    rcases h2 with ⟨-, -, g1⟩ | ⟨g1, -⟩ | ⟨g1, -⟩
    · exact ⟨_, _, e3, g1⟩
    · exact absurd g1 hq
    · exact absurd g1 hq
  · obtain rfl := two_2 ne_SA hk
    rcases h2 with ⟨g1, -⟩ | ⟨-, -, -, g1⟩ | ⟨-, g1, -⟩
    · exact absurd hR g1
    · exact ⟨_, _, e3, g1⟩
    · exact absurd g1 hq
theorem nN_split {q v : Int} (h : P7_split E c F pr A B q v (zI a) wc) (h2 : R8_split E m A B q v r wm) : r = zI a ∧ Both E c F pr m 0 wc wm := by
  obtain ⟨⟨hR, hq⟩, e2, e3⟩ := h
  rcases h2 with ⟨g1, -, -⟩ | ⟨-, g1, -, -⟩ | ⟨-, g2, g3, g4⟩
  · exact absurd hR g1
  · exact absurd hq g1
  · exact ⟨g3.trans e2.symm, _, _, e3, g4⟩
theorem nX_split {q v : Int} (h : X7_split E c F pr A B q v Ex wc) (hk : (Ex, k) ∈ [(xIS, (1 : Int)), (xIA, 2)]) (h2 : R8_split E m A B q v r wm) : Both E c F pr m k wc wm := by
  obtain ⟨⟨rfl, hq⟩ | ⟨rfl, hR, hq⟩, e3⟩ := h
  · obtain rfl := two_1 ne_SA hk
    rcases h2 with ⟨-, -, g1⟩ | ⟨g1, -⟩ | ⟨g1, -⟩
    · exact ⟨_, _, e3, g1⟩
    · exact absurd g1 hq
    · exact absurd g1 hq
  · obtain rfl := two_2 ne_SA hk
    rcases h2 with ⟨g1, -⟩ | ⟨-, -, -, g1⟩ | ⟨-, g1, -⟩
    · exact absurd hR g1
    · exact ⟨_, _, e3, g1⟩
    · exact absurd g1 hq
theorem nN_run (h : P7_run E c F pr A B (zI a) wc) (h2 : R8_run E m A B r wm) : r = zI a ∧ Both E c F pr m 0 wc wm := by
  obtain ⟨hR, ⟨s1, s2, s3, dd, x, h1, e2⟩, e3⟩ := h
  rcases h2 with ⟨g1, -, -⟩ | ⟨-, ⟨t1, t2, t3, d2, x2, g2, g3⟩, g4⟩
  · exact absurd hR g1
  · refine ⟨?_, _, _, e3, g4⟩
    rw [g3, e2, (ans_one hR h1 g2).2.1]
theorem nX_run (h : X7_run E c F pr A B Ex wc) (hk : (Ex, k) ∈ [(xIS, (1 : Int))]) (h2 : R8_run E m A B r wm) : Both E c F pr m k wc wm := by
  obtain ⟨-, hq, e3⟩ := h
  obtain ⟨-, rfl⟩ := Prod.mk.inj (List.mem_singleton.mp hk)
  rcases h2 with ⟨-, -, g1⟩ | ⟨g1, -⟩
  · exact ⟨_, _, e3, g1⟩
  · exact absurd g1 hq
theorem nN_answer {q : Int} (h : P7_answer E c F pr A B q (zI a) wc) (h2 : R8_answer E m A B q r wm) : r = zI a ∧ Both E c F pr m 0 wc wm := by
  obtain ⟨hR, ⟨s1, s2, s3, dd, x, h1, h0, e2⟩, e3⟩ := h
  rcases h2 with ⟨g1, -, -⟩ | ⟨-, ⟨t1, t2, t3, d2, x2, g2, -, g3⟩, g4⟩
  · exact (no_sol hR h1 h0 g1).elim
  · refine ⟨?_, _, _, e3, g4⟩
    rw [g3, e2, (ans_one hR h1 g2).2.2 h0]
theorem nX_answer {q : Int} (h : X7_answer E c F pr A B q Ex wc) (hk : (Ex, k) ∈ [(xIS, (1 : Int))]) (h2 : R8_answer E m A B q r wm) : Both E c F pr m k wc wm := by
  obtain ⟨-, hq, e3⟩ := h
  obtain ⟨-, rfl⟩ := Prod.mk.inj (List.mem_singleton.mp hk)
  rcases h2 with ⟨-, -, g1⟩ | ⟨hR, ⟨t1, t2, t3, d2, x2, g2, g0, g3⟩, g4⟩
  · exact ⟨_, _, e3, g1⟩
  · exact (no_ans hR g2 g0 hq).elim
theorem nN_closed {t q : Int} (h : P7_closed E c F pr A B t q (zI a) wc) (h2 : R8_closed E m A B t q r wm) : r = zI a ∧ Both E c F pr m 0 wc wm := by
  obtain ⟨hR, ⟨s1, s2, s3, dd, x, h1, h0, e2⟩, e3⟩ := h
  rcases h2 with ⟨g1, -, -⟩ | ⟨-, ⟨t1, t2, t3, d2, x2, g2, -, g3⟩, g4⟩
  · exact (no_sol hR h1 h0 g1).elim
  · refine ⟨?_, _, _, e3, g4⟩
    obtain ⟨⟨rfl, rfl, rfl⟩, rfl, hx⟩ := ans_one hR h1 g2
    obtain rfl := hx h0
    obtain ⟨c1, c2⟩ := cl_eq hR h1 h0
    rw [c1, c2] at e2
    exact g3.trans e2.symm
theorem nX_closed {t q : Int} (h : X7_closed E c F pr A B t q Ex wc) (hk : (Ex, k) ∈ [(xIS, (1 : Int))]) (h2 : R8_closed E m A B t q r wm) : Both E c F pr m k wc wm := by
  obtain ⟨-, hq, e3⟩ := h
  obtain ⟨-, rfl⟩ := Prod.mk.inj (List.mem_singleton.mp hk)
  rcases h2 with ⟨-, -, g1⟩ | ⟨hR, ⟨t1, t2, t3, d2, x2, g2, g0, g3⟩, g4⟩
  · exact ⟨_, _, e3, g1⟩
  · exact (no_ans hR g2 g0 hq).elim
theorem nN_value {v : Int} (h : P7_value E c F pr A B v (zI a) wc) (h2 : R8_value E m A B v r wm) : r = zI a ∧ Both E c F pr m 0 wc wm := by
  obtain ⟨hR, ⟨s1, s2, s3, dd, x, h1, h0, e2⟩, e3⟩ := h
  rcases h2 with ⟨g1, -, -⟩ | ⟨-, ⟨t1, t2, t3, d2, x2, g2, -, g3⟩, g4⟩
  · exact (no_sol hR h1 h0 g1).elim
  · refine ⟨?_, _, _, e3, g4⟩
    obtain ⟨⟨rfl, rfl, rfl⟩, rfl, hx⟩ := ans_one hR h1 g2
    obtain rfl := hx h0
    obtain ⟨c1, c2⟩ := cl_eq hR h1 h0
    rw [c1, c2] at e2
    exact g3.trans e2.symm
theorem nX_value {v : Int} (h : X7_value E c F pr A B v Ex wc) (hk : (Ex, k) ∈ [(xIS, (1 : Int))]) (h2 : R8_value E m A B v r wm) : Both E c F pr m k wc wm := by
  obtain ⟨-, hq, e3⟩ := h
  obtain ⟨-, rfl⟩ := Prod.mk.inj (List.mem_singleton.mp hk)
  rcases h2 with ⟨-, -, g1⟩ | ⟨hR, ⟨t1, t2, t3, d2, x2, g2, g0, g3⟩, g4⟩
  · exact ⟨_, _, e3, g1⟩
  · exact (no_ans hR g2 g0 hq).elim
theorem nN_term {q : Int} (h : P7_term E c F pr A B q (zI a) wc) (h2 : R8_term E m A B q r wm) : r = zI a ∧ Both E c F pr m 0 wc wm := by
  obtain ⟨hq, ⟨k1, e1, e0, e2⟩, e3⟩ := h
  rcases h2 with ⟨g1, -, -⟩ | ⟨-, ⟨j, g1, g2⟩, -, -⟩ | ⟨k2, g1, g2, g5, g3, g4⟩
  · exact absurd hq g1
  · exact absurd g2 (e0 j (by omega))
  · obtain rfl : k1 = k2 := by omega
    exact ⟨g3.trans e2.symm, _, _, e3, g4⟩
theorem nX_term {q : Int} (h : X7_term E c F pr A B q Ex wc) (hk : (Ex, k) ∈ [(xIO, (1 : Int)), (xIS, 2)]) (h2 : R8_term E m A B q r wm) : Both E c F pr m k wc wm := by
  obtain ⟨⟨rfl, hq⟩ | ⟨rfl, hR, j, hj, hq⟩, e3⟩ := h
  · obtain rfl := two_1 ne_OS hk
    rcases h2 with ⟨-, -, g1⟩ | ⟨g1, -⟩ | ⟨k2, g1, g2, -⟩
    · exact ⟨_, _, e3, g1⟩
    · exact absurd g1 hq
    · exact absurd ⟨by omega, by omega⟩ hq
  · obtain rfl := two_2 ne_OS hk
    rcases h2 with ⟨g1, -⟩ | ⟨-, -, -, g1⟩ | ⟨k2, g1, g2, g3, -⟩
    · exact absurd hR g1
    · exact ⟨_, _, e3, g1⟩
    · exact absurd hq (g3 j (by omega))
theorem nN_sum {q : Int} (h : P7_sum E c F pr A B q (zI a) wc) (h2 : R8_sum E m A B q r wm) : r = zI a ∧ Both E c F pr m 0 wc wm := by
  obtain ⟨hq, ⟨k1, e1, e0, e2⟩, e3⟩ := h
  rcases h2 with ⟨g1, -, -⟩ | ⟨-, ⟨j, g1, g2⟩, -, -⟩ | ⟨k2, g1, g2, g5, g3, g4⟩
  · exact absurd hq g1
  · exact absurd g2 (e0 j (by omega))
  · obtain rfl : k1 = k2 := by omega
    exact ⟨g3.trans e2.symm, _, _, e3, g4⟩
theorem nX_sum {q : Int} (h : X7_sum E c F pr A B q Ex wc) (hk : (Ex, k) ∈ [(xIO, (1 : Int)), (xIS, 2)]) (h2 : R8_sum E m A B q r wm) : Both E c F pr m k wc wm := by
  obtain ⟨⟨rfl, hq⟩ | ⟨rfl, hR, j, hj, hq⟩, e3⟩ := h
  · obtain rfl := two_1 ne_OS hk
    rcases h2 with ⟨-, -, g1⟩ | ⟨g1, -⟩ | ⟨k2, g1, g2, -⟩
    · exact ⟨_, _, e3, g1⟩
    · exact absurd g1 hq
    · exact absurd ⟨by omega, by omega⟩ hq
  · obtain rfl := two_2 ne_OS hk
    rcases h2 with ⟨g1, -⟩ | ⟨-, -, -, g1⟩ | ⟨k2, g1, g2, g3, -⟩
    · exact absurd hR g1
    · exact ⟨_, _, e3, g1⟩
    · exact absurd hq (g3 j (by omega))
end AG
