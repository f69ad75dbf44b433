/-! the posts by their names -/
def P7_put (E : ev) (c : Nat → Nat) (F : Nat → Nat × Nat × Nat × Nat × Nat) (pr : Nat → Option Nat) (A B : Po) (t : Int) (q : Int) (v : Int) : Int32 → va_W → Prop := (fun r w => (0 ≤ q ∧ q ≤ 4) ∧ ∃ k : Nat, q = (k : Int) ∧ r = zI (if (if t = 0 then B else A) k = cF v then 0 else 1) ∧ CsX E c F pr (if t = 0 then A else cset A k (cF v)) (if t = 0 then cset B k (cF v) else B) w)
def X7_put (E : ev) (c : Nat → Nat) (F : Nat → Nat × Nat × Nat × Nat × Nat) (pr : Nat → Option Nat) (A B : Po) (t : Int) (q : Int) (v : Int) : String → va_W → Prop := (fun Ex w => Ex = xIO ∧ ¬ (0 ≤ q ∧ q ≤ 4) ∧ CsX E c F pr A B w)
def R8_put (E : ev) (m : Nat → Nat) (A B : Po) (u : Int) (q : Int) (v : Int) : Int32 → va_W → Prop := (fun r w => (¬ (0 ≤ q ∧ q ≤ 4) ∧ r = zI 0 ∧ RmX E m A B 1 w) ∨ ∃ k : Nat, q = (k : Int) ∧ k ≤ 4 ∧ r = zI (if (if u = 0 then B else A) k = cF v then 0 else 1) ∧ RmX E m (if u = 0 then A else cset A k (cF v)) (if u = 0 then cset B k (cF v) else B) 0 w)
def P7_at (E : ev) (c : Nat → Nat) (F : Nat → Nat × Nat × Nat × Nat × Nat) (pr : Nat → Option Nat) (A B : Po) (t : Int) (q : Int) : Int32 → va_W → Prop := (fun r w => (0 ≤ q ∧ q ≤ 4) ∧ r = zI ((nm (if t = 0 then B else A) q).val : Int) ∧ CsX E c F pr A B w)
def X7_at (E : ev) (c : Nat → Nat) (F : Nat → Nat × Nat × Nat × Nat × Nat) (pr : Nat → Option Nat) (A B : Po) (t : Int) (q : Int) : String → va_W → Prop := (fun Ex w => Ex = xIO ∧ ¬ (0 ≤ q ∧ q ≤ 4) ∧ CsX E c F pr A B w)
def R8_at (E : ev) (m : Nat → Nat) (A B : Po) (u : Int) (q : Int) : Int32 → va_W → Prop := (fun r w => (¬ (0 ≤ q ∧ q ≤ 4) ∧ r = zI 0 ∧ RmX E m A B 1 w) ∨ ∃ k : Nat, q = (k : Int) ∧ k ≤ 4 ∧ r = zI (((if u = 0 then B else A) k).val : Int) ∧ RmX E m A B 0 w)
def P7_found (E : ev) (c : Nat → Nat) (F : Nat → Nat × Nat × Nat × Nat × Nat) (pr : Nat → Option Nat) (A B : Po) (q : Int) : Int32 → va_W → Prop := (fun r w => Ra A B ∧ (∃ k : Nat, q = (k : Int) ∧ k < 9 ∧ r = zI (hi (spg k (spl A B k)))) ∧ CsX E c F pr A B w)
def X7_found (E : ev) (c : Nat → Nat) (F : Nat → Nat × Nat × Nat × Nat × Nat) (pr : Nat → Option Nat) (A B : Po) (q : Int) : String → va_W → Prop := (fun Ex w => ((Ex = xIS ∧ ¬ Ra A B) ∨ (Ex = xIA ∧ Ra A B ∧ ¬ (0 ≤ q ∧ q ≤ 8))) ∧ CsX E c F pr A B w)
def R8_found (E : ev) (m : Nat → Nat) (A B : Po) (q : Int) : Int32 → va_W → Prop := (fun r w => (¬ Ra A B ∧ r = zI 0 ∧ RmX E m A B 1 w) ∨ (Ra A B ∧ ¬ (0 ≤ q ∧ q ≤ 8) ∧ r = zI 0 ∧ RmX E m A B 2 w) ∨ (Ra A B ∧ ∃ k : Nat, q = (k : Int) ∧ k < 9 ∧ r = zI (hi (spg k (spl A B k))) ∧ RmX E m A B 0 w))
def P7_degree (E : ev) (c : Nat → Nat) (F : Nat → Nat × Nat × Nat × Nat × Nat) (pr : Nat → Option Nat) (A B : Po) (q : Int) : Int32 → va_W → Prop := (fun r w => (Ra A B ∧ 0 ≤ q ∧ q ≤ 2) ∧ r = zI (hi (if q = 0 then (spl A B 9).1 else if q = 1 then (spl A B 9).2.1 else (spl A B 9).2.2)) ∧ CsX E c F pr A B w)
def X7_degree (E : ev) (c : Nat → Nat) (F : Nat → Nat × Nat × Nat × Nat × Nat) (pr : Nat → Option Nat) (A B : Po) (q : Int) : String → va_W → Prop := (fun Ex w => ((Ex = xIS ∧ ¬ Ra A B) ∨ (Ex = xIA ∧ Ra A B ∧ ¬ (0 ≤ q ∧ q ≤ 2))) ∧ CsX E c F pr A B w)
def R8_degree (E : ev) (m : Nat → Nat) (A B : Po) (q : Int) : Int32 → va_W → Prop := (fun r w => (¬ Ra A B ∧ r = zI 0 ∧ RmX E m A B 1 w) ∨ (Ra A B ∧ ¬ (0 ≤ q ∧ q ≤ 2) ∧ r = zI 0 ∧ RmX E m A B 2 w) ∨ (Ra A B ∧ (0 ≤ q ∧ q ≤ 2) ∧ r = zI (hi (if q = 0 then (spl A B 9).1 else if q = 1 then (spl A B 9).2.1 else (spl A B 9).2.2)) ∧ RmX E m A B 0 w))
def P7_split (E : ev) (c : Nat → Nat) (F : Nat → Nat × Nat × Nat × Nat × Nat) (pr : Nat → Option Nat) (A B : Po) (q : Int) (v : Int) : Int32 → va_W → Prop := (fun r w => (Ra A B ∧ 0 ≤ q ∧ q ≤ 2) ∧ r = zI ((nm (if q = 0 then (spl A B 9).1 else if q = 1 then (spl A B 9).2.1 else (spl A B 9).2.2) v).val : Int) ∧ CsX E c F pr A B w)
def X7_split (E : ev) (c : Nat → Nat) (F : Nat → Nat × Nat × Nat × Nat × Nat) (pr : Nat → Option Nat) (A B : Po) (q : Int) (v : Int) : String → va_W → Prop := (fun Ex w => ((Ex = xIS ∧ ¬ Ra A B) ∨ (Ex = xIA ∧ Ra A B ∧ ¬ (0 ≤ q ∧ q ≤ 2))) ∧ CsX E c F pr A B w)
def R8_split (E : ev) (m : Nat → Nat) (A B : Po) (q : Int) (v : Int) : Int32 → va_W → Prop := (fun r w => (¬ Ra A B ∧ r = zI 0 ∧ RmX E m A B 1 w) ∨ (Ra A B ∧ ¬ (0 ≤ q ∧ q ≤ 2) ∧ r = zI 0 ∧ RmX E m A B 2 w) ∨ (Ra A B ∧ (0 ≤ q ∧ q ≤ 2) ∧ r = zI (((nm (if q = 0 then (spl A B 9).1 else if q = 1 then (spl A B 9).2.1 else (spl A B 9).2.2) v).val : Int)) ∧ RmX E m A B 0 w))
def P7_run (E : ev) (c : Nat → Nat) (F : Nat → Nat × Nat × Nat × Nat × Nat) (pr : Nat → Option Nat) (A B : Po) : Int32 → va_W → Prop := (fun r w => Ra A B ∧ (∃ s1 s2 s3 dd x, AnsR A B s1 s2 s3 dd x ∧ r = zI dd) ∧ CsX E c F pr A B w)
def X7_run (E : ev) (c : Nat → Nat) (F : Nat → Nat × Nat × Nat × Nat × Nat) (pr : Nat → Option Nat) (A B : Po) : String → va_W → Prop := (fun Ex w => Ex = xIS ∧ ¬ Ra A B ∧ CsX E c F pr A B w)
def R8_run (E : ev) (m : Nat → Nat) (A B : Po) : Int32 → va_W → Prop := (fun r w => (¬ Ra A B ∧ r = zI 0 ∧ RmX E m A B 1 w) ∨ (Ra A B ∧ (∃ s1 s2 s3 dd x, SolR A B s1 s2 s3 dd x ∧ r = zI dd) ∧ RmX E m A B 0 w))
def P7_answer (E : ev) (c : Nat → Nat) (F : Nat → Nat × Nat × Nat × Nat × Nat) (pr : Nat → Option Nat) (A B : Po) (q : Int) : Int32 → va_W → Prop := (fun r w => Ra A B ∧ (∃ s1 s2 s3 dd x, AnsR A B s1 s2 s3 dd x ∧ 0 ≤ dd ∧ r = zI ((nm x q).val : Int)) ∧ CsX E c F pr A B w)
def X7_answer (E : ev) (c : Nat → Nat) (F : Nat → Nat × Nat × Nat × Nat × Nat) (pr : Nat → Option Nat) (A B : Po) (q : Int) : String → va_W → Prop := (fun Ex w => Ex = xIS ∧ noA A B ∧ CsX E c F pr A B w)
def R8_answer (E : ev) (m : Nat → Nat) (A B : Po) (q : Int) : Int32 → va_W → Prop := (fun r w => (noS A B ∧ r = zI 0 ∧ RmX E m A B 1 w) ∨ (Ra A B ∧ (∃ s1 s2 s3 dd x, SolR A B s1 s2 s3 dd x ∧ 0 ≤ dd ∧ r = zI ((nm x q).val : Int)) ∧ RmX E m A B 0 w))
def P7_closed (E : ev) (c : Nat → Nat) (F : Nat → Nat × Nat × Nat × Nat × Nat) (pr : Nat → Option Nat) (A B : Po) (t : Int) (q : Int) : Int32 → va_W → Prop := (fun r w => Ra A B ∧ (∃ s1 s2 s3 dd x, AnsR A B s1 s2 s3 dd x ∧ 0 ≤ dd ∧ r = zI ((nm (if t = 0 then cBot (mvp s2 32002) x s3 else cTop (mvp s2 32002) x s3) q).val : Int)) ∧ CsX E c F pr A B w)
def X7_closed (E : ev) (c : Nat → Nat) (F : Nat → Nat × Nat × Nat × Nat × Nat) (pr : Nat → Option Nat) (A B : Po) (t : Int) (q : Int) : String → va_W → Prop := (fun Ex w => Ex = xIS ∧ noA A B ∧ CsX E c F pr A B w)
def R8_closed (E : ev) (m : Nat → Nat) (A B : Po) (u : Int) (q : Int) : Int32 → va_W → Prop := (fun r w => (noS A B ∧ r = zI 0 ∧ RmX E m A B 1 w) ∨ (Ra A B ∧ (∃ s1 s2 s3 dd x, SolR A B s1 s2 s3 dd x ∧ 0 ≤ dd ∧ r = zI ((nm (if u = 0 then quo s3 (gm s3 (conv (mvp s2 32002) x)) else quo (conv (mvp s2 32002) x) (gm s3 (conv (mvp s2 32002) x))) q).val : Int)) ∧ RmX E m A B 0 w))
def P7_value (E : ev) (c : Nat → Nat) (F : Nat → Nat × Nat × Nat × Nat × Nat) (pr : Nat → Option Nat) (A B : Po) (v : Int) : Int32 → va_W → Prop := (fun r w => Ra A B ∧ (∃ s1 s2 s3 dd x, AnsR A B s1 s2 s3 dd x ∧ 0 ≤ dd ∧ r = zI (if val (cBot (mvp s2 32002) x s3) (cF v) = 0 then -1 else ((val (cTop (mvp s2 32002) x s3) (cF v) * ivq (val (cBot (mvp s2 32002) x s3) (cF v))).val : Int))) ∧ CsX E c F pr A B w)
def X7_value (E : ev) (c : Nat → Nat) (F : Nat → Nat × Nat × Nat × Nat × Nat) (pr : Nat → Option Nat) (A B : Po) (v : Int) : String → va_W → Prop := (fun Ex w => Ex = xIS ∧ noA A B ∧ CsX E c F pr A B w)
def R8_value (E : ev) (m : Nat → Nat) (A B : Po) (v : Int) : Int32 → va_W → Prop := (fun r w => (noS A B ∧ r = zI 0 ∧ RmX E m A B 1 w) ∨ (Ra A B ∧ (∃ s1 s2 s3 dd x, SolR A B s1 s2 s3 dd x ∧ 0 ≤ dd ∧ r = zI (if val (quo s3 (gm s3 (conv (mvp s2 32002) x))) (cF v) = 0 then -1 else ((val (quo (conv (mvp s2 32002) x) (gm s3 (conv (mvp s2 32002) x))) (cF v) * ivq (val (quo s3 (gm s3 (conv (mvp s2 32002) x))) (cF v))).val : Int))) ∧ RmX E m A B 0 w))
def P7_term (E : ev) (c : Nat → Nat) (F : Nat → Nat × Nat × Nat × Nat × Nat) (pr : Nat → Option Nat) (A B : Po) (q : Int) : Int32 → va_W → Prop := (fun r w => (0 ≤ q ∧ q ≤ 60) ∧ (∃ k : Nat, q = (k : Int) ∧ (∀ j : Nat, j < k → val B (cF (j : Int)) ≠ 0) ∧ r = zI ((tmv A B k).val : Int)) ∧ CsX E c F pr A B w)
def X7_term (E : ev) (c : Nat → Nat) (F : Nat → Nat × Nat × Nat × Nat × Nat) (pr : Nat → Option Nat) (A B : Po) (q : Int) : String → va_W → Prop := (fun Ex w => ((Ex = xIO ∧ ¬ (0 ≤ q ∧ q ≤ 60)) ∨ (Ex = xIS ∧ (0 ≤ q ∧ q ≤ 60) ∧ ∃ j : Nat, (j : Int) < q ∧ val B (cF (j : Int)) = 0)) ∧ CsX E c F pr A B w)
def R8_term (E : ev) (m : Nat → Nat) (A B : Po) (q : Int) : Int32 → va_W → Prop := (fun r w => (¬ (0 ≤ q ∧ q ≤ 60) ∧ r = zI 0 ∧ RmX E m A B 1 w) ∨ ((0 ≤ q ∧ q ≤ 60) ∧ (∃ j : Nat, (j : Int) < q ∧ val B (cF (j : Int)) = 0) ∧ r = zI 0 ∧ RmX E m A B 2 w) ∨ ∃ k : Nat, q = (k : Int) ∧ k ≤ 60 ∧ (∀ j : Nat, j < k → val B (cF (j : Int)) ≠ 0) ∧ r = zI ((tmv A B k).val : Int) ∧ RmX E m A B 0 w)
def P7_sum (E : ev) (c : Nat → Nat) (F : Nat → Nat × Nat × Nat × Nat × Nat) (pr : Nat → Option Nat) (A B : Po) (q : Int) : Int32 → va_W → Prop := (fun r w => (0 ≤ q ∧ q ≤ 60) ∧ (∃ k : Nat, q = (k : Int) ∧ (∀ j : Nat, j + 1 < k → val B (cF (j : Int)) ≠ 0) ∧ r = zI ((sm (tmv A B) k).val : Int)) ∧ CsX E c F pr A B w)
def X7_sum (E : ev) (c : Nat → Nat) (F : Nat → Nat × Nat × Nat × Nat × Nat) (pr : Nat → Option Nat) (A B : Po) (q : Int) : String → va_W → Prop := (fun Ex w => ((Ex = xIO ∧ ¬ (0 ≤ q ∧ q ≤ 60)) ∨ (Ex = xIS ∧ (0 ≤ q ∧ q ≤ 60) ∧ ∃ j : Nat, (j : Int) < q - 1 ∧ val B (cF (j : Int)) = 0)) ∧ CsX E c F pr A B w)
def R8_sum (E : ev) (m : Nat → Nat) (A B : Po) (q : Int) : Int32 → va_W → Prop := (fun r w => (¬ (0 ≤ q ∧ q ≤ 60) ∧ r = zI 0 ∧ RmX E m A B 1 w) ∨ ((0 ≤ q ∧ q ≤ 60) ∧ (∃ j : Nat, (j : Int) < q - 1 ∧ val B (cF (j : Int)) = 0) ∧ r = zI 0 ∧ RmX E m A B 2 w) ∨ ∃ k : Nat, q = (k : Int) ∧ k ≤ 60 ∧ (∀ j : Nat, j + 1 < k → val B (cF (j : Int)) ≠ 0) ∧ r = zI ((sm (tmv A B) k).val : Int) ∧ RmX E m A B 0 w)
theorem lk_L_put_0 : Cond.classLink yL_put.cls 13 xIO ∈ wsL_put := by decide +kernel
set_option maxHeartbeats 4000000 in
theorem c_L_put (E : ev) (l : Launch) (hl : l.stackTraces = false) (c : Nat → Nat) (F : Nat → Nat × Nat × Nat × Nat × Nat) (pr : Nat → Option Nat) (p : Nat → Po) (n d : Nat → Int) (bh : Nat → Option Nat) (o i : Nat → Po) (hpr : ∀ j : Nat, j < 21 → pr j = some (F j).1) (hC : CsOk p n d o i) (t : Int) (t1 : -2147483648 ≤ t) (t2 : t < 2147483648) (q : Int) (q1 : -2147483648 ≤ q) (q2 : q < 2147483648) (v : Int) (v1 : -9223372036854775808 ≤ v) (v2 : v < 9223372036854775808) (h : Nat) (f : Nat → Int) : Hi E l yL_put wsL_put { frames := 9, cells := 1, slots := 6, locals := 270 } [.ref (c 0), .int (zI t), .int (zI q), .long (zL v), .ref h] (oc E h f :: (csX E c pr p n d bh ++ fam E F o i (List.range 21))) (HP E h f [(xIO, 1)] (P7_put E c F pr (p 0) (p 1) t q v) (X7_put E c F pr (p 0) (p 1) t q v)) 1 6 := by
  refine enter_h (cc := cL_put) (nL := 7) (hh := [(0, 19, 22, 13)]) (by decide) rfl (Nat.le_of_ble_eq_true rfl) (fun G CH hret => ?_)
  have C := CH.ok
  show G 0 0 (oc E h f :: (csX E c pr p n d bh ++ fam E F o i (List.range 21))) [(0, .ref (c 0)), (1, .int (zI t)), (2, .int (zI q)), (3, .long (zL v)), (5, .ref h)] 0 []
  refine g_aload C dL_put_0 4 rfl ?_
  refine g_iconst C dL_put_2 ?_
  refine g_aload_n C dL_put_3 0 rfl ?_
  refine g_iload_n C dL_put_4 1 rfl ?_
  refine g_iload_n C dL_put_5 2 rfl ?_
  refine g_lload_n C dL_put_6 3 rfl ?_
  refine g_callH (n := 3) (wr := [oc E h f]) (post := P7_put E c F pr (p 0) (p 1) t q v) (XQ := X7_put E c F pr (p 0) (p 1) t q v) CH (c_X7_put E l hl c F pr p n d bh o i hpr hC t t1 t2 q q1 q2 v v1 v2) gL_put_X7_put rfl (by decide +kernel) rfl (by decide) dL_put_7 rfl (Nat.le_of_ble_eq_true rfl) rfl rfl (List.Perm.refl _) (fun Ex w_1 h_1 => ?_) (fun r_1 w_1 h_1 => ?_)
  · obtain ⟨rfl, hx⟩ := h_1
    refine ⟨[], [], (0, 19, 22, 13), rfl, (fun z hz => by cases hz), by decide, by decide, lk_L_put_0, by decide +kernel, fun qx => ?_⟩
    refine g_astore C ((6, .ref qx) :: [(0, .ref (c 0)), (1, .int (zI t)), (2, .int (zI q)), (3, .long (zL v)), (5, .ref h)]) dL_put_22 (by decide) rfl ?_
    refine g_iconst C dL_put_24 ?_
    exact hret _ _ _ _ _ _ dL_put_25 (by decide) (by decide) (Or.inr ⟨_, 1, w_1, List.mem_cons_self, ⟨rfl, hx⟩, rfl, rfl⟩)
  obtain ⟨a, a1, a2, rfl⟩ : ∃ a : Int, -2147483648 ≤ a ∧ a < 2147483648 ∧ r_1 = zI a := ⟨r_1.toInt, (zI_rng r_1).1, (zI_rng r_1).2, (zI_of r_1).symm⟩
  refine g_in C (fun G2 C2 back2 => ?_)
  have h01 : a = 0 ∨ a = 1 := by
    obtain ⟨-, k, -, hr, -⟩ := h_1
    by_cases g9 : (if t = 0 then p 1 else p 0) k = cF v
    · rw [if_pos g9] at hr; exact Or.inl ((zI_eq a1 a2 (by omega) (by omega)).mp hr)
    · rw [if_neg g9] at hr; exact Or.inr ((zI_eq a1 a2 (by omega) (by omega)).mp hr)
  refine g_if_eq C2 17 dL_put_10 (by decide) (by omega) (by omega) (fun c_1 => ?_) (fun c_1 => ?_)
  · refine g_lconst C2 dL_put_17 ?_
    refine g_lastZ C2 [oc E h (cset f 0 0)] 0 0 rfl (by omega) (by omega) (by decide) dL_put_18 rfl ?_
    refine g_goto C2 26 dL_put_19 (by decide) ?_
    refine g_iconst C2 dL_put_26 ?_
    refine back2 _ _ _ _ _ _ ?_
    obtain rfl : a = 0 := by omega
    exact hret _ _ _ _ _ _ dL_put_27 (by decide) (by decide) (Or.inl ⟨0, w_1, ⟨a1, a2⟩, h_1, rfl, rfl⟩)
  · refine g_lconst C2 dL_put_13 ?_
    refine g_goto C2 18 dL_put_14 (by decide) ?_
    refine g_lastZ C2 [oc E h (cset f 0 1)] 0 0 rfl (by omega) (by omega) (by decide) dL_put_18 rfl ?_
    refine g_goto C2 26 dL_put_19 (by decide) ?_
    refine g_iconst C2 dL_put_26 ?_
    refine back2 _ _ _ _ _ _ ?_
    obtain rfl : a = 1 := by omega
    exact hret _ _ _ _ _ _ dL_put_27 (by decide) (by decide) (Or.inl ⟨1, w_1, ⟨a1, a2⟩, h_1, rfl, rfl⟩)
theorem lk_L_at_0 : Cond.classLink yL_at.cls 13 xIO ∈ wsL_at := by decide +kernel
set_option maxHeartbeats 4000000 in
theorem c_L_at (E : ev) (l : Launch) (hl : l.stackTraces = false) (c : Nat → Nat) (F : Nat → Nat × Nat × Nat × Nat × Nat) (pr : Nat → Option Nat) (p : Nat → Po) (n d : Nat → Int) (bh : Nat → Option Nat) (o i : Nat → Po) (hpr : ∀ j : Nat, j < 21 → pr j = some (F j).1) (hC : CsOk p n d o i) (t : Int) (t1 : -2147483648 ≤ t) (t2 : t < 2147483648) (q : Int) (q1 : -2147483648 ≤ q) (q2 : q < 2147483648) (h : Nat) (f : Nat → Int) : Hi E l yL_at wsL_at { frames := 9, cells := 1, slots := 6, locals := 270 } [.ref (c 0), .int (zI t), .int (zI q), .ref h] (oc E h f :: (csX E c pr p n d bh ++ fam E F o i (List.range 21))) (HP E h f [(xIO, 1)] (P7_at E c F pr (p 0) (p 1) t q) (X7_at E c F pr (p 0) (p 1) t q)) 1 6 := by
  refine enter_h (cc := cL_at) (nL := 5) (hh := [(0, 10, 13, 13)]) (by decide) rfl (Nat.le_of_ble_eq_true rfl) (fun G CH hret => ?_)
  have C := CH.ok
  show G 0 0 (oc E h f :: (csX E c pr p n d bh ++ fam E F o i (List.range 21))) [(0, .ref (c 0)), (1, .int (zI t)), (2, .int (zI q)), (3, .ref h)] 0 []
  refine g_aload_n C dL_at_0 3 rfl ?_
  refine g_iconst C dL_at_1 ?_
  refine g_aload_n C dL_at_2 0 rfl ?_
  refine g_iload_n C dL_at_3 1 rfl ?_
  refine g_iload_n C dL_at_4 2 rfl ?_
  refine g_callH (n := 2) (wr := [oc E h f]) (post := P7_at E c F pr (p 0) (p 1) t q) (XQ := X7_at E c F pr (p 0) (p 1) t q) CH (c_X7_at E l hl c F pr p n d bh o i hpr hC t t1 t2 q q1 q2) gL_at_X7_at rfl (by decide +kernel) rfl (by decide) dL_at_5 rfl (Nat.le_of_ble_eq_true rfl) rfl rfl (List.Perm.refl _) (fun Ex w_1 h_1 => ?_) (fun r_1 w_1 h_1 => ?_)
  · obtain ⟨rfl, hx⟩ := h_1
    refine ⟨[], [], (0, 10, 13, 13), rfl, (fun z hz => by cases hz), by decide, by decide, lk_L_at_0, by decide +kernel, fun qx => ?_⟩
    refine g_astore C ((4, .ref qx) :: [(0, .ref (c 0)), (1, .int (zI t)), (2, .int (zI q)), (3, .ref h)]) dL_at_13 (by decide) rfl ?_
    refine g_iconst C dL_at_15 ?_
    exact hret _ _ _ _ _ _ dL_at_16 (by decide) (by decide) (Or.inr ⟨_, 1, w_1, List.mem_cons_self, ⟨rfl, hx⟩, rfl, rfl⟩)
  obtain ⟨a, a1, a2, rfl⟩ : ∃ a : Int, -2147483648 ≤ a ∧ a < 2147483648 ∧ r_1 = zI a := ⟨r_1.toInt, (zI_rng r_1).1, (zI_rng r_1).2, (zI_of r_1).symm⟩
  refine g_in C (fun G2 C2 back2 => ?_)
  refine g_i2l C2 dL_at_8 (by omega) (by omega) ?_
  refine g_lastZ C2 [oc E h (cset f 0 a)] 0 0 rfl (by omega) (by omega) (by decide) dL_at_9 rfl ?_
  refine g_goto C2 17 dL_at_10 (by decide) ?_
  refine g_iconst C2 dL_at_17 ?_
  refine back2 _ _ _ _ _ _ ?_
  exact hret _ _ _ _ _ _ dL_at_18 (by decide) (by decide) (Or.inl ⟨a, w_1, ⟨a1, a2⟩, h_1, rfl, rfl⟩)
theorem lk_L_found_0 : Cond.classLink yL_found.cls 23 xIS ∈ wsL_found := by decide +kernel
theorem lk_L_found_1 : Cond.classLink yL_found.cls 25 xIA ∈ wsL_found := by decide +kernel
set_option maxHeartbeats 4000000 in
theorem c_L_found (E : ev) (l : Launch) (hl : l.stackTraces = false) (c : Nat → Nat) (F : Nat → Nat × Nat × Nat × Nat × Nat) (pr : Nat → Option Nat) (p : Nat → Po) (n d : Nat → Int) (bh : Nat → Option Nat) (o i : Nat → Po) (hpr : ∀ j : Nat, j < 21 → pr j = some (F j).1) (hC : CsOk p n d o i) (q : Int) (q1 : -2147483648 ≤ q) (q2 : q < 2147483648) (h : Nat) (f : Nat → Int) : Hi E l yL_found wsL_found { frames := 9, cells := 2, slots := 12, locals := 270 } [.ref (c 0), .int (zI q), .ref h] (oc E h f :: (csX E c pr p n d bh ++ fam E F o i (List.range 21))) (HP E h f [(xIS, 1), (xIA, 2)] (P7_found E c F pr (p 0) (p 1) q) (X7_found E c F pr (p 0) (p 1) q)) 2 12 := by
  refine enter_h (cc := cL_found) (nL := 4) (hh := [(0, 9, 12, 23), (0, 9, 15, 25)]) (by decide) rfl (Nat.le_of_ble_eq_true rfl) (fun G CH hret => ?_)
  have C := CH.ok
  show G 0 0 (oc E h f :: (csX E c pr p n d bh ++ fam E F o i (List.range 21))) [(0, .ref (c 0)), (1, .int (zI q)), (2, .ref h)] 0 []
  refine g_aload_n C dL_found_0 2 rfl ?_
  refine g_iconst C dL_found_1 ?_
  refine g_aload_n C dL_found_2 0 rfl ?_
  refine g_iload_n C dL_found_3 1 rfl ?_
  refine g_callH (n := 1) (wr := [oc E h f]) (post := P7_found E c F pr (p 0) (p 1) q) (XQ := X7_found E c F pr (p 0) (p 1) q) CH (c_X7_found E l hl c F pr p n d bh o i hpr hC q q1 q2) gL_found_X7_found rfl (by decide +kernel) rfl (by decide) dL_found_4 rfl (Nat.le_of_ble_eq_true rfl) rfl rfl (List.Perm.refl _) (fun Ex w_1 h_1 => ?_) (fun r_1 w_1 h_1 => ?_)
  · obtain ⟨h9 | h9, hx⟩ := h_1
    · obtain ⟨rfl, h9⟩ := h9
      refine ⟨[], [(0, 9, 15, 25)], (0, 9, 12, 23), rfl, (fun z hz => by cases hz), by decide, by decide, lk_L_found_0, by decide +kernel, fun qx => ?_⟩
      refine g_astore_n C ((3, .ref qx) :: [(0, .ref (c 0)), (1, .int (zI q)), (2, .ref h)]) dL_found_12 (by decide) rfl ?_
      refine g_iconst C dL_found_13 ?_
      exact hret _ _ _ _ _ _ dL_found_14 (by decide) (by decide) (Or.inr ⟨_, 1, w_1, List.mem_cons_self, ⟨Or.inl ⟨rfl, h9⟩, hx⟩, rfl, rfl⟩)
    · obtain ⟨rfl, h9⟩ := h9
      refine ⟨[(0, 9, 12, 23)], [], (0, 9, 15, 25), rfl, (fun z hz => by rw [List.mem_singleton.mp hz]; exact ⟨by decide, _, lk_L_found_0, by decide +kernel⟩), by decide, by decide, lk_L_found_1, by decide +kernel, fun qx => ?_⟩
      refine g_astore_n C ((3, .ref qx) :: [(0, .ref (c 0)), (1, .int (zI q)), (2, .ref h)]) dL_found_15 (by decide) rfl ?_
      refine g_iconst C dL_found_16 ?_
      exact hret _ _ _ _ _ _ dL_found_17 (by decide) (by decide) (Or.inr ⟨_, 2, w_1, List.mem_cons_of_mem _ List.mem_cons_self, ⟨Or.inr ⟨rfl, h9⟩, hx⟩, rfl, rfl⟩)
  obtain ⟨a, a1, a2, rfl⟩ : ∃ a : Int, -2147483648 ≤ a ∧ a < 2147483648 ∧ r_1 = zI a := ⟨r_1.toInt, (zI_rng r_1).1, (zI_rng r_1).2, (zI_of r_1).symm⟩
  refine g_in C (fun G2 C2 back2 => ?_)
  refine g_i2l C2 dL_found_7 (by omega) (by omega) ?_
  refine g_lastZ C2 [oc E h (cset f 0 a)] 0 0 rfl (by omega) (by omega) (by decide) dL_found_8 rfl ?_
  refine g_goto C2 18 dL_found_9 (by decide) ?_
  refine g_iconst C2 dL_found_18 ?_
  refine back2 _ _ _ _ _ _ ?_
  exact hret _ _ _ _ _ _ dL_found_19 (by decide) (by decide) (Or.inl ⟨a, w_1, ⟨a1, a2⟩, h_1, rfl, rfl⟩)
theorem lk_L_degree_0 : Cond.classLink yL_degree.cls 23 xIS ∈ wsL_degree := by decide +kernel
theorem lk_L_degree_1 : Cond.classLink yL_degree.cls 25 xIA ∈ wsL_degree := by decide +kernel
set_option maxHeartbeats 4000000 in
theorem c_L_degree (E : ev) (l : Launch) (hl : l.stackTraces = false) (c : Nat → Nat) (F : Nat → Nat × Nat × Nat × Nat × Nat) (pr : Nat → Option Nat) (p : Nat → Po) (n d : Nat → Int) (bh : Nat → Option Nat) (o i : Nat → Po) (hpr : ∀ j : Nat, j < 21 → pr j = some (F j).1) (hC : CsOk p n d o i) (q : Int) (q1 : -2147483648 ≤ q) (q2 : q < 2147483648) (h : Nat) (f : Nat → Int) : Hi E l yL_degree wsL_degree { frames := 9, cells := 2, slots := 12, locals := 270 } [.ref (c 0), .int (zI q), .ref h] (oc E h f :: (csX E c pr p n d bh ++ fam E F o i (List.range 21))) (HP E h f [(xIS, 1), (xIA, 2)] (P7_degree E c F pr (p 0) (p 1) q) (X7_degree E c F pr (p 0) (p 1) q)) 2 12 := by
  refine enter_h (cc := cL_degree) (nL := 4) (hh := [(0, 9, 12, 23), (0, 9, 15, 25)]) (by decide) rfl (Nat.le_of_ble_eq_true rfl) (fun G CH hret => ?_)
  have C := CH.ok
  show G 0 0 (oc E h f :: (csX E c pr p n d bh ++ fam E F o i (List.range 21))) [(0, .ref (c 0)), (1, .int (zI q)), (2, .ref h)] 0 []
  refine g_aload_n C dL_degree_0 2 rfl ?_
  refine g_iconst C dL_degree_1 ?_
  refine g_aload_n C dL_degree_2 0 rfl ?_
  refine g_iload_n C dL_degree_3 1 rfl ?_
  refine g_callH (n := 1) (wr := [oc E h f]) (post := P7_degree E c F pr (p 0) (p 1) q) (XQ := X7_degree E c F pr (p 0) (p 1) q) CH (c_X7_degree E l hl c F pr p n d bh o i hpr hC q q1 q2) gL_degree_X7_degree rfl (by decide +kernel) rfl (by decide) dL_degree_4 rfl (Nat.le_of_ble_eq_true rfl) rfl rfl (List.Perm.refl _) (fun Ex w_1 h_1 => ?_) (fun r_1 w_1 h_1 => ?_)
  · obtain ⟨h9 | h9, hx⟩ := h_1
    · obtain ⟨rfl, h9⟩ := h9
      refine ⟨[], [(0, 9, 15, 25)], (0, 9, 12, 23), rfl, (fun z hz => by cases hz), by decide, by decide, lk_L_degree_0, by decide +kernel, fun qx => ?_⟩
      refine g_astore_n C ((3, .ref qx) :: [(0, .ref (c 0)), (1, .int (zI q)), (2, .ref h)]) dL_degree_12 (by decide) rfl ?_
      refine g_iconst C dL_degree_13 ?_
      exact hret _ _ _ _ _ _ dL_degree_14 (by decide) (by decide) (Or.inr ⟨_, 1, w_1, List.mem_cons_self, ⟨Or.inl ⟨rfl, h9⟩, hx⟩, rfl, rfl⟩)
    · obtain ⟨rfl, h9⟩ := h9
      refine ⟨[(0, 9, 12, 23)], [], (0, 9, 15, 25), rfl, (fun z hz => by rw [List.mem_singleton.mp hz]; exact ⟨by decide, _, lk_L_degree_0, by decide +kernel⟩), by decide, by decide, lk_L_degree_1, by decide +kernel, fun qx => ?_⟩
      refine g_astore_n C ((3, .ref qx) :: [(0, .ref (c 0)), (1, .int (zI q)), (2, .ref h)]) dL_degree_15 (by decide) rfl ?_
      refine g_iconst C dL_degree_16 ?_
      exact hret _ _ _ _ _ _ dL_degree_17 (by decide) (by decide) (Or.inr ⟨_, 2, w_1, List.mem_cons_of_mem _ List.mem_cons_self, ⟨Or.inr ⟨rfl, h9⟩, hx⟩, rfl, rfl⟩)
  obtain ⟨a, a1, a2, rfl⟩ : ∃ a : Int, -2147483648 ≤ a ∧ a < 2147483648 ∧ r_1 = zI a := ⟨r_1.toInt, (zI_rng r_1).1, (zI_rng r_1).2, (zI_of r_1).symm⟩
  refine g_in C (fun G2 C2 back2 => ?_)
  refine g_i2l C2 dL_degree_7 (by omega) (by omega) ?_
  refine g_lastZ C2 [oc E h (cset f 0 a)] 0 0 rfl (by omega) (by omega) (by decide) dL_degree_8 rfl ?_
  refine g_goto C2 18 dL_degree_9 (by decide) ?_
  refine g_iconst C2 dL_degree_18 ?_
  refine back2 _ _ _ _ _ _ ?_
  exact hret _ _ _ _ _ _ dL_degree_19 (by decide) (by decide) (Or.inl ⟨a, w_1, ⟨a1, a2⟩, h_1, rfl, rfl⟩)
theorem lk_L_split_0 : Cond.classLink yL_split.cls 23 xIS ∈ wsL_split := by decide +kernel
theorem lk_L_split_1 : Cond.classLink yL_split.cls 25 xIA ∈ wsL_split := by decide +kernel
set_option maxHeartbeats 4000000 in
theorem c_L_split (E : ev) (l : Launch) (hl : l.stackTraces = false) (c : Nat → Nat) (F : Nat → Nat × Nat × Nat × Nat × Nat) (pr : Nat → Option Nat) (p : Nat → Po) (n d : Nat → Int) (bh : Nat → Option Nat) (o i : Nat → Po) (hpr : ∀ j : Nat, j < 21 → pr j = some (F j).1) (hC : CsOk p n d o i) (q : Int) (q1 : -2147483648 ≤ q) (q2 : q < 2147483648) (v : Int) (v1 : -2147483648 ≤ v) (v2 : v < 2147483648) (h : Nat) (f : Nat → Int) : Hi E l yL_split wsL_split { frames := 9, cells := 2, slots := 12, locals := 270 } [.ref (c 0), .int (zI q), .int (zI v), .ref h] (oc E h f :: (csX E c pr p n d bh ++ fam E F o i (List.range 21))) (HP E h f [(xIS, 1), (xIA, 2)] (P7_split E c F pr (p 0) (p 1) q v) (X7_split E c F pr (p 0) (p 1) q v)) 2 12 := by
  refine enter_h (cc := cL_split) (nL := 5) (hh := [(0, 10, 13, 23), (0, 10, 17, 25)]) (by decide) rfl (Nat.le_of_ble_eq_true rfl) (fun G CH hret => ?_)
  have C := CH.ok
  show G 0 0 (oc E h f :: (csX E c pr p n d bh ++ fam E F o i (List.range 21))) [(0, .ref (c 0)), (1, .int (zI q)), (2, .int (zI v)), (3, .ref h)] 0 []
  refine g_aload_n C dL_split_0 3 rfl ?_
  refine g_iconst C dL_split_1 ?_
  refine g_aload_n C dL_split_2 0 rfl ?_
  refine g_iload_n C dL_split_3 1 rfl ?_
  refine g_iload_n C dL_split_4 2 rfl ?_
  refine g_callH (n := 2) (wr := [oc E h f]) (post := P7_split E c F pr (p 0) (p 1) q v) (XQ := X7_split E c F pr (p 0) (p 1) q v) CH (c_X7_split E l hl c F pr p n d bh o i hpr hC q q1 q2 v v1 v2) gL_split_X7_split rfl (by decide +kernel) rfl (by decide) dL_split_5 rfl (Nat.le_of_ble_eq_true rfl) rfl rfl (List.Perm.refl _) (fun Ex w_1 h_1 => ?_) (fun r_1 w_1 h_1 => ?_)
  · obtain ⟨h9 | h9, hx⟩ := h_1
    · obtain ⟨rfl, h9⟩ := h9
      refine ⟨[], [(0, 10, 17, 25)], (0, 10, 13, 23), rfl, (fun z hz => by cases hz), by decide, by decide, lk_L_split_0, by decide +kernel, fun qx => ?_⟩
      refine g_astore C ((4, .ref qx) :: [(0, .ref (c 0)), (1, .int (zI q)), (2, .int (zI v)), (3, .ref h)]) dL_split_13 (by decide) rfl ?_
      refine g_iconst C dL_split_15 ?_
      exact hret _ _ _ _ _ _ dL_split_16 (by decide) (by decide) (Or.inr ⟨_, 1, w_1, List.mem_cons_self, ⟨Or.inl ⟨rfl, h9⟩, hx⟩, rfl, rfl⟩)
    · obtain ⟨rfl, h9⟩ := h9
      refine ⟨[(0, 10, 13, 23)], [], (0, 10, 17, 25), rfl, (fun z hz => by rw [List.mem_singleton.mp hz]; exact ⟨by decide, _, lk_L_split_0, by decide +kernel⟩), by decide, by decide, lk_L_split_1, by decide +kernel, fun qx => ?_⟩
      refine g_astore C ((4, .ref qx) :: [(0, .ref (c 0)), (1, .int (zI q)), (2, .int (zI v)), (3, .ref h)]) dL_split_17 (by decide) rfl ?_
      refine g_iconst C dL_split_19 ?_
      exact hret _ _ _ _ _ _ dL_split_20 (by decide) (by decide) (Or.inr ⟨_, 2, w_1, List.mem_cons_of_mem _ List.mem_cons_self, ⟨Or.inr ⟨rfl, h9⟩, hx⟩, rfl, rfl⟩)
  obtain ⟨a, a1, a2, rfl⟩ : ∃ a : Int, -2147483648 ≤ a ∧ a < 2147483648 ∧ r_1 = zI a := ⟨r_1.toInt, (zI_rng r_1).1, (zI_rng r_1).2, (zI_of r_1).symm⟩
  refine g_in C (fun G2 C2 back2 => ?_)
  refine g_i2l C2 dL_split_8 (by omega) (by omega) ?_
  refine g_lastZ C2 [oc E h (cset f 0 a)] 0 0 rfl (by omega) (by omega) (by decide) dL_split_9 rfl ?_
  refine g_goto C2 21 dL_split_10 (by decide) ?_
  refine g_iconst C2 dL_split_21 ?_
  refine back2 _ _ _ _ _ _ ?_
  exact hret _ _ _ _ _ _ dL_split_22 (by decide) (by decide) (Or.inl ⟨a, w_1, ⟨a1, a2⟩, h_1, rfl, rfl⟩)
theorem lk_L_run_0 : Cond.classLink yL_run.cls 23 xIS ∈ wsL_run := by decide +kernel
set_option maxHeartbeats 4000000 in
theorem c_L_run (E : ev) (l : Launch) (hl : l.stackTraces = false) (c : Nat → Nat) (F : Nat → Nat × Nat × Nat × Nat × Nat) (pr : Nat → Option Nat) (p : Nat → Po) (n d : Nat → Int) (bh : Nat → Option Nat) (o i : Nat → Po) (hpr : ∀ j : Nat, j < 21 → pr j = some (F j).1) (hC : CsOk p n d o i) (h : Nat) (f : Nat → Int) : Hi E l yL_run wsL_run { frames := 9, cells := 1, slots := 6, locals := 270 } [.ref (c 0), .ref h] (oc E h f :: (csX E c pr p n d bh ++ fam E F o i (List.range 21))) (HP E h f [(xIS, 1)] (P7_run E c F pr (p 0) (p 1)) (X7_run E c F pr (p 0) (p 1))) 1 6 := by
  refine enter_h (cc := cL_run) (nL := 3) (hh := [(0, 8, 11, 23)]) (by decide) rfl (Nat.le_of_ble_eq_true rfl) (fun G CH hret => ?_)
  have C := CH.ok
  show G 0 0 (oc E h f :: (csX E c pr p n d bh ++ fam E F o i (List.range 21))) [(0, .ref (c 0)), (1, .ref h)] 0 []
  refine g_aload_n C dL_run_0 1 rfl ?_
  refine g_iconst C dL_run_1 ?_
  refine g_aload_n C dL_run_2 0 rfl ?_
  refine g_callH (n := 0) (wr := [oc E h f]) (post := P7_run E c F pr (p 0) (p 1)) (XQ := X7_run E c F pr (p 0) (p 1)) CH (c_X7_run E l hl c F pr p n d bh o i hpr hC) gL_run_X7_run rfl (by decide +kernel) rfl (by decide) dL_run_3 rfl (Nat.le_of_ble_eq_true rfl) rfl rfl (List.Perm.refl _) (fun Ex w_1 h_1 => ?_) (fun r_1 w_1 h_1 => ?_)
  · obtain ⟨rfl, hx⟩ := h_1
    refine ⟨[], [], (0, 8, 11, 23), rfl, (fun z hz => by cases hz), by decide, by decide, lk_L_run_0, by decide +kernel, fun qx => ?_⟩
    refine g_astore_n C ((2, .ref qx) :: [(0, .ref (c 0)), (1, .ref h)]) dL_run_11 (by decide) rfl ?_
    refine g_iconst C dL_run_12 ?_
    exact hret _ _ _ _ _ _ dL_run_13 (by decide) (by decide) (Or.inr ⟨_, 1, w_1, List.mem_cons_self, ⟨rfl, hx⟩, rfl, rfl⟩)
  obtain ⟨a, a1, a2, rfl⟩ : ∃ a : Int, -2147483648 ≤ a ∧ a < 2147483648 ∧ r_1 = zI a := ⟨r_1.toInt, (zI_rng r_1).1, (zI_rng r_1).2, (zI_of r_1).symm⟩
  refine g_in C (fun G2 C2 back2 => ?_)
  refine g_i2l C2 dL_run_6 (by omega) (by omega) ?_
  refine g_lastZ C2 [oc E h (cset f 0 a)] 0 0 rfl (by omega) (by omega) (by decide) dL_run_7 rfl ?_
  refine g_goto C2 14 dL_run_8 (by decide) ?_
  refine g_iconst C2 dL_run_14 ?_
  refine back2 _ _ _ _ _ _ ?_
  exact hret _ _ _ _ _ _ dL_run_15 (by decide) (by decide) (Or.inl ⟨a, w_1, ⟨a1, a2⟩, h_1, rfl, rfl⟩)
theorem lk_L_answer_0 : Cond.classLink yL_answer.cls 23 xIS ∈ wsL_answer := by decide +kernel
set_option maxHeartbeats 4000000 in
theorem c_L_answer (E : ev) (l : Launch) (hl : l.stackTraces = false) (c : Nat → Nat) (F : Nat → Nat × Nat × Nat × Nat × Nat) (pr : Nat → Option Nat) (p : Nat → Po) (n d : Nat → Int) (bh : Nat → Option Nat) (o i : Nat → Po) (hpr : ∀ j : Nat, j < 21 → pr j = some (F j).1) (hC : CsOk p n d o i) (q : Int) (q1 : -2147483648 ≤ q) (q2 : q < 2147483648) (h : Nat) (f : Nat → Int) : Hi E l yL_answer wsL_answer { frames := 9, cells := 2, slots := 12, locals := 270 } [.ref (c 0), .int (zI q), .ref h] (oc E h f :: (csX E c pr p n d bh ++ fam E F o i (List.range 21))) (HP E h f [(xIS, 1)] (P7_answer E c F pr (p 0) (p 1) q) (X7_answer E c F pr (p 0) (p 1) q)) 2 12 := by
  refine enter_h (cc := cL_answer) (nL := 4) (hh := [(0, 9, 12, 23)]) (by decide) rfl (Nat.le_of_ble_eq_true rfl) (fun G CH hret => ?_)
  have C := CH.ok
  show G 0 0 (oc E h f :: (csX E c pr p n d bh ++ fam E F o i (List.range 21))) [(0, .ref (c 0)), (1, .int (zI q)), (2, .ref h)] 0 []
  refine g_aload_n C dL_answer_0 2 rfl ?_
  refine g_iconst C dL_answer_1 ?_
  refine g_aload_n C dL_answer_2 0 rfl ?_
  refine g_iload_n C dL_answer_3 1 rfl ?_
  refine g_callH (n := 1) (wr := [oc E h f]) (post := P7_answer E c F pr (p 0) (p 1) q) (XQ := X7_answer E c F pr (p 0) (p 1) q) CH (c_X7_answer E l hl c F pr p n d bh o i hpr hC q q1 q2) gL_answer_X7_answer rfl (by decide +kernel) rfl (by decide) dL_answer_4 rfl (Nat.le_of_ble_eq_true rfl) rfl rfl (List.Perm.refl _) (fun Ex w_1 h_1 => ?_) (fun r_1 w_1 h_1 => ?_)
  · obtain ⟨rfl, hx⟩ := h_1
    refine ⟨[], [], (0, 9, 12, 23), rfl, (fun z hz => by cases hz), by decide, by decide, lk_L_answer_0, by decide +kernel, fun qx => ?_⟩
    refine g_astore_n C ((3, .ref qx) :: [(0, .ref (c 0)), (1, .int (zI q)), (2, .ref h)]) dL_answer_12 (by decide) rfl ?_
    refine g_iconst C dL_answer_13 ?_
    exact hret _ _ _ _ _ _ dL_answer_14 (by decide) (by decide) (Or.inr ⟨_, 1, w_1, List.mem_cons_self, ⟨rfl, hx⟩, rfl, rfl⟩)
  obtain ⟨a, a1, a2, rfl⟩ : ∃ a : Int, -2147483648 ≤ a ∧ a < 2147483648 ∧ r_1 = zI a := ⟨r_1.toInt, (zI_rng r_1).1, (zI_rng r_1).2, (zI_of r_1).symm⟩
  refine g_in C (fun G2 C2 back2 => ?_)
  refine g_i2l C2 dL_answer_7 (by omega) (by omega) ?_
  refine g_lastZ C2 [oc E h (cset f 0 a)] 0 0 rfl (by omega) (by omega) (by decide) dL_answer_8 rfl ?_
  refine g_goto C2 15 dL_answer_9 (by decide) ?_
  refine g_iconst C2 dL_answer_15 ?_
  refine back2 _ _ _ _ _ _ ?_
  exact hret _ _ _ _ _ _ dL_answer_16 (by decide) (by decide) (Or.inl ⟨a, w_1, ⟨a1, a2⟩, h_1, rfl, rfl⟩)
theorem lk_L_closed_0 : Cond.classLink yL_closed.cls 23 xIS ∈ wsL_closed := by decide +kernel
set_option maxHeartbeats 4000000 in
theorem c_L_closed (E : ev) (l : Launch) (hl : l.stackTraces = false) (c : Nat → Nat) (F : Nat → Nat × Nat × Nat × Nat × Nat) (pr : Nat → Option Nat) (p : Nat → Po) (n d : Nat → Int) (bh : Nat → Option Nat) (o i : Nat → Po) (hpr : ∀ j : Nat, j < 21 → pr j = some (F j).1) (hC : CsOk p n d o i) (t : Int) (t1 : -2147483648 ≤ t) (t2 : t < 2147483648) (q : Int) (q1 : -2147483648 ≤ q) (q2 : q < 2147483648) (h : Nat) (f : Nat → Int) : Hi E l yL_closed wsL_closed { frames := 9, cells := 2, slots := 12, locals := 270 } [.ref (c 0), .int (zI t), .int (zI q), .ref h] (oc E h f :: (csX E c pr p n d bh ++ fam E F o i (List.range 21))) (HP E h f [(xIS, 1)] (P7_closed E c F pr (p 0) (p 1) t q) (X7_closed E c F pr (p 0) (p 1) t q)) 2 12 := by
  refine enter_h (cc := cL_closed) (nL := 5) (hh := [(0, 10, 13, 23)]) (by decide) rfl (Nat.le_of_ble_eq_true rfl) (fun G CH hret => ?_)
  have C := CH.ok
  show G 0 0 (oc E h f :: (csX E c pr p n d bh ++ fam E F o i (List.range 21))) [(0, .ref (c 0)), (1, .int (zI t)), (2, .int (zI q)), (3, .ref h)] 0 []
  refine g_aload_n C dL_closed_0 3 rfl ?_
  refine g_iconst C dL_closed_1 ?_
  refine g_aload_n C dL_closed_2 0 rfl ?_
  refine g_iload_n C dL_closed_3 1 rfl ?_
  refine g_iload_n C dL_closed_4 2 rfl ?_
  refine g_callH (n := 2) (wr := [oc E h f]) (post := P7_closed E c F pr (p 0) (p 1) t q) (XQ := X7_closed E c F pr (p 0) (p 1) t q) CH (c_X7_closed E l hl c F pr p n d bh o i hpr hC t t1 t2 q q1 q2) gL_closed_X7_closed rfl (by decide +kernel) rfl (by decide) dL_closed_5 rfl (Nat.le_of_ble_eq_true rfl) rfl rfl (List.Perm.refl _) (fun Ex w_1 h_1 => ?_) (fun r_1 w_1 h_1 => ?_)
  · obtain ⟨rfl, hx⟩ := h_1
    refine ⟨[], [], (0, 10, 13, 23), rfl, (fun z hz => by cases hz), by decide, by decide, lk_L_closed_0, by decide +kernel, fun qx => ?_⟩
    refine g_astore C ((4, .ref qx) :: [(0, .ref (c 0)), (1, .int (zI t)), (2, .int (zI q)), (3, .ref h)]) dL_closed_13 (by decide) rfl ?_
    refine g_iconst C dL_closed_15 ?_
    exact hret _ _ _ _ _ _ dL_closed_16 (by decide) (by decide) (Or.inr ⟨_, 1, w_1, List.mem_cons_self, ⟨rfl, hx⟩, rfl, rfl⟩)
  obtain ⟨a, a1, a2, rfl⟩ : ∃ a : Int, -2147483648 ≤ a ∧ a < 2147483648 ∧ r_1 = zI a := ⟨r_1.toInt, (zI_rng r_1).1, (zI_rng r_1).2, (zI_of r_1).symm⟩
  refine g_in C (fun G2 C2 back2 => ?_)
  refine g_i2l C2 dL_closed_8 (by omega) (by omega) ?_
  refine g_lastZ C2 [oc E h (cset f 0 a)] 0 0 rfl (by omega) (by omega) (by decide) dL_closed_9 rfl ?_
  refine g_goto C2 17 dL_closed_10 (by decide) ?_
  refine g_iconst C2 dL_closed_17 ?_
  refine back2 _ _ _ _ _ _ ?_
  exact hret _ _ _ _ _ _ dL_closed_18 (by decide) (by decide) (Or.inl ⟨a, w_1, ⟨a1, a2⟩, h_1, rfl, rfl⟩)
theorem lk_L_value_0 : Cond.classLink yL_value.cls 23 xIS ∈ wsL_value := by decide +kernel
set_option maxHeartbeats 4000000 in
theorem c_L_value (E : ev) (l : Launch) (hl : l.stackTraces = false) (c : Nat → Nat) (F : Nat → Nat × Nat × Nat × Nat × Nat) (pr : Nat → Option Nat) (p : Nat → Po) (n d : Nat → Int) (bh : Nat → Option Nat) (o i : Nat → Po) (hpr : ∀ j : Nat, j < 21 → pr j = some (F j).1) (hC : CsOk p n d o i) (v : Int) (v1 : -9223372036854775808 ≤ v) (v2 : v < 9223372036854775808) (h : Nat) (f : Nat → Int) : Hi E l yL_value wsL_value { frames := 9, cells := 2, slots := 12, locals := 270 } [.ref (c 0), .long (zL v), .ref h] (oc E h f :: (csX E c pr p n d bh ++ fam E F o i (List.range 21))) (HP E h f [(xIS, 1)] (P7_value E c F pr (p 0) (p 1) v) (X7_value E c F pr (p 0) (p 1) v)) 2 12 := by
  refine enter_h (cc := cL_value) (nL := 5) (hh := [(0, 9, 12, 23)]) (by decide) rfl (Nat.le_of_ble_eq_true rfl) (fun G CH hret => ?_)
  have C := CH.ok
  show G 0 0 (oc E h f :: (csX E c pr p n d bh ++ fam E F o i (List.range 21))) [(0, .ref (c 0)), (1, .long (zL v)), (3, .ref h)] 0 []
  refine g_aload_n C dL_value_0 2 rfl ?_
  refine g_iconst C dL_value_1 ?_
  refine g_aload_n C dL_value_2 0 rfl ?_
  refine g_lload_n C dL_value_3 1 rfl ?_
  refine g_callH (n := 1) (wr := [oc E h f]) (post := P7_value E c F pr (p 0) (p 1) v) (XQ := X7_value E c F pr (p 0) (p 1) v) CH (c_X7_value E l hl c F pr p n d bh o i hpr hC v v1 v2) gL_value_X7_value rfl (by decide +kernel) rfl (by decide) dL_value_4 rfl (Nat.le_of_ble_eq_true rfl) rfl rfl (List.Perm.refl _) (fun Ex w_1 h_1 => ?_) (fun r_1 w_1 h_1 => ?_)
  · obtain ⟨rfl, hx⟩ := h_1
    refine ⟨[], [], (0, 9, 12, 23), rfl, (fun z hz => by cases hz), by decide, by decide, lk_L_value_0, by decide +kernel, fun qx => ?_⟩
    refine g_astore C ((4, .ref qx) :: [(0, .ref (c 0)), (1, .long (zL v)), (3, .ref h)]) dL_value_12 (by decide) rfl ?_
    refine g_iconst C dL_value_14 ?_
    exact hret _ _ _ _ _ _ dL_value_15 (by decide) (by decide) (Or.inr ⟨_, 1, w_1, List.mem_cons_self, ⟨rfl, hx⟩, rfl, rfl⟩)
  obtain ⟨a, a1, a2, rfl⟩ : ∃ a : Int, -2147483648 ≤ a ∧ a < 2147483648 ∧ r_1 = zI a := ⟨r_1.toInt, (zI_rng r_1).1, (zI_rng r_1).2, (zI_of r_1).symm⟩
  refine g_in C (fun G2 C2 back2 => ?_)
  refine g_i2l C2 dL_value_7 (by omega) (by omega) ?_
  refine g_lastZ C2 [oc E h (cset f 0 a)] 0 0 rfl (by omega) (by omega) (by decide) dL_value_8 rfl ?_
  refine g_goto C2 16 dL_value_9 (by decide) ?_
  refine g_iconst C2 dL_value_16 ?_
  refine back2 _ _ _ _ _ _ ?_
  exact hret _ _ _ _ _ _ dL_value_17 (by decide) (by decide) (Or.inl ⟨a, w_1, ⟨a1, a2⟩, h_1, rfl, rfl⟩)
theorem lk_L_term_0 : Cond.classLink yL_term.cls 13 xIO ∈ wsL_term := by decide +kernel
theorem lk_L_term_1 : Cond.classLink yL_term.cls 23 xIS ∈ wsL_term := by decide +kernel
set_option maxHeartbeats 4000000 in
theorem c_L_term (E : ev) (l : Launch) (hl : l.stackTraces = false) (c : Nat → Nat) (F : Nat → Nat × Nat × Nat × Nat × Nat) (pr : Nat → Option Nat) (p : Nat → Po) (n d : Nat → Int) (bh : Nat → Option Nat) (o i : Nat → Po) (hpr : ∀ j : Nat, j < 21 → pr j = some (F j).1) (hC : CsOk p n d o i) (q : Int) (q1 : -2147483648 ≤ q) (q2 : q < 2147483648) (h : Nat) (f : Nat → Int) : Hi E l yL_term wsL_term { frames := 9, cells := 2, slots := 12, locals := 270 } [.ref (c 0), .int (zI q), .ref h] (oc E h f :: (csX E c pr p n d bh ++ fam E F o i (List.range 21))) (HP E h f [(xIO, 1), (xIS, 2)] (P7_term E c F pr (p 0) (p 1) q) (X7_term E c F pr (p 0) (p 1) q)) 2 12 := by
  refine enter_h (cc := cL_term) (nL := 4) (hh := [(0, 9, 12, 13), (0, 9, 15, 23)]) (by decide) rfl (Nat.le_of_ble_eq_true rfl) (fun G CH hret => ?_)
  have C := CH.ok
  show G 0 0 (oc E h f :: (csX E c pr p n d bh ++ fam E F o i (List.range 21))) [(0, .ref (c 0)), (1, .int (zI q)), (2, .ref h)] 0 []
  refine g_aload_n C dL_term_0 2 rfl ?_
  refine g_iconst C dL_term_1 ?_
  refine g_aload_n C dL_term_2 0 rfl ?_
  refine g_iload_n C dL_term_3 1 rfl ?_
  refine g_callH (n := 1) (wr := [oc E h f]) (post := P7_term E c F pr (p 0) (p 1) q) (XQ := X7_term E c F pr (p 0) (p 1) q) CH (c_X7_term E l hl c F pr p n d bh o i hpr hC q q1 q2) gL_term_X7_term rfl (by decide +kernel) rfl (by decide) dL_term_4 rfl (Nat.le_of_ble_eq_true rfl) rfl rfl (List.Perm.refl _) (fun Ex w_1 h_1 => ?_) (fun r_1 w_1 h_1 => ?_)
  · obtain ⟨h9 | h9, hx⟩ := h_1
    · obtain ⟨rfl, h9⟩ := h9
      refine ⟨[], [(0, 9, 15, 23)], (0, 9, 12, 13), rfl, (fun z hz => by cases hz), by decide, by decide, lk_L_term_0, by decide +kernel, fun qx => ?_⟩
      refine g_astore_n C ((3, .ref qx) :: [(0, .ref (c 0)), (1, .int (zI q)), (2, .ref h)]) dL_term_12 (by decide) rfl ?_
      refine g_iconst C dL_term_13 ?_
      exact hret _ _ _ _ _ _ dL_term_14 (by decide) (by decide) (Or.inr ⟨_, 1, w_1, List.mem_cons_self, ⟨Or.inl ⟨rfl, h9⟩, hx⟩, rfl, rfl⟩)
    · obtain ⟨rfl, h9⟩ := h9
      refine ⟨[(0, 9, 12, 13)], [], (0, 9, 15, 23), rfl, (fun z hz => by rw [List.mem_singleton.mp hz]; exact ⟨by decide, _, lk_L_term_0, by decide +kernel⟩), by decide, by decide, lk_L_term_1, by decide +kernel, fun qx => ?_⟩
      refine g_astore_n C ((3, .ref qx) :: [(0, .ref (c 0)), (1, .int (zI q)), (2, .ref h)]) dL_term_15 (by decide) rfl ?_
      refine g_iconst C dL_term_16 ?_
      exact hret _ _ _ _ _ _ dL_term_17 (by decide) (by decide) (Or.inr ⟨_, 2, w_1, List.mem_cons_of_mem _ List.mem_cons_self, ⟨Or.inr ⟨rfl, h9⟩, hx⟩, rfl, rfl⟩)
  obtain ⟨a, a1, a2, rfl⟩ : ∃ a : Int, -2147483648 ≤ a ∧ a < 2147483648 ∧ r_1 = zI a := ⟨r_1.toInt, (zI_rng r_1).1, (zI_rng r_1).2, (zI_of r_1).symm⟩
  refine g_in C (fun G2 C2 back2 => ?_)
  refine g_i2l C2 dL_term_7 (by omega) (by omega) ?_
  refine g_lastZ C2 [oc E h (cset f 0 a)] 0 0 rfl (by omega) (by omega) (by decide) dL_term_8 rfl ?_
  refine g_goto C2 18 dL_term_9 (by decide) ?_
  refine g_iconst C2 dL_term_18 ?_
  refine back2 _ _ _ _ _ _ ?_
  exact hret _ _ _ _ _ _ dL_term_19 (by decide) (by decide) (Or.inl ⟨a, w_1, ⟨a1, a2⟩, h_1, rfl, rfl⟩)
theorem lk_L_sum_0 : Cond.classLink yL_sum.cls 13 xIO ∈ wsL_sum := by decide +kernel
theorem lk_L_sum_1 : Cond.classLink yL_sum.cls 23 xIS ∈ wsL_sum := by decide +kernel
set_option maxHeartbeats 4000000 in
theorem c_L_sum (E : ev) (l : Launch) (hl : l.stackTraces = false) (c : Nat → Nat) (F : Nat → Nat × Nat × Nat × Nat × Nat) (pr : Nat → Option Nat) (p : Nat → Po) (n d : Nat → Int) (bh : Nat → Option Nat) (o i : Nat → Po) (hpr : ∀ j : Nat, j < 21 → pr j = some (F j).1) (hC : CsOk p n d o i) (q : Int) (q1 : -2147483648 ≤ q) (q2 : q < 2147483648) (h : Nat) (f : Nat → Int) : Hi E l yL_sum wsL_sum { frames := 9, cells := 2, slots := 12, locals := 270 } [.ref (c 0), .int (zI q), .ref h] (oc E h f :: (csX E c pr p n d bh ++ fam E F o i (List.range 21))) (HP E h f [(xIO, 1), (xIS, 2)] (P7_sum E c F pr (p 0) (p 1) q) (X7_sum E c F pr (p 0) (p 1) q)) 2 12 := by
  refine enter_h (cc := cL_sum) (nL := 4) (hh := [(0, 9, 12, 13), (0, 9, 15, 23)]) (by decide) rfl (Nat.le_of_ble_eq_true rfl) (fun G CH hret => ?_)
  have C := CH.ok
  show G 0 0 (oc E h f :: (csX E c pr p n d bh ++ fam E F o i (List.range 21))) [(0, .ref (c 0)), (1, .int (zI q)), (2, .ref h)] 0 []
  refine g_aload_n C dL_sum_0 2 rfl ?_
  refine g_iconst C dL_sum_1 ?_
  refine g_aload_n C dL_sum_2 0 rfl ?_
  refine g_iload_n C dL_sum_3 1 rfl ?_
  refine g_callH (n := 1) (wr := [oc E h f]) (post := P7_sum E c F pr (p 0) (p 1) q) (XQ := X7_sum E c F pr (p 0) (p 1) q) CH (c_X7_sum E l hl c F pr p n d bh o i hpr hC q q1 q2) gL_sum_X7_sum rfl (by decide +kernel) rfl (by decide) dL_sum_4 rfl (Nat.le_of_ble_eq_true rfl) rfl rfl (List.Perm.refl _) (fun Ex w_1 h_1 => ?_) (fun r_1 w_1 h_1 => ?_)
  · obtain ⟨h9 | h9, hx⟩ := h_1
    · obtain ⟨rfl, h9⟩ := h9
      refine ⟨[], [(0, 9, 15, 23)], (0, 9, 12, 13), rfl, (fun z hz => by cases hz), by decide, by decide, lk_L_sum_0, by decide +kernel, fun qx => ?_⟩
      refine g_astore_n C ((3, .ref qx) :: [(0, .ref (c 0)), (1, .int (zI q)), (2, .ref h)]) dL_sum_12 (by decide) rfl ?_
      refine g_iconst C dL_sum_13 ?_
      exact hret _ _ _ _ _ _ dL_sum_14 (by decide) (by decide) (Or.inr ⟨_, 1, w_1, List.mem_cons_self, ⟨Or.inl ⟨rfl, h9⟩, hx⟩, rfl, rfl⟩)
    · obtain ⟨rfl, h9⟩ := h9
      refine ⟨[(0, 9, 12, 13)], [], (0, 9, 15, 23), rfl, (fun z hz => by rw [List.mem_singleton.mp hz]; exact ⟨by decide, _, lk_L_sum_0, by decide +kernel⟩), by decide, by decide, lk_L_sum_1, by decide +kernel, fun qx => ?_⟩
      refine g_astore_n C ((3, .ref qx) :: [(0, .ref (c 0)), (1, .int (zI q)), (2, .ref h)]) dL_sum_15 (by decide) rfl ?_
      refine g_iconst C dL_sum_16 ?_
      exact hret _ _ _ _ _ _ dL_sum_17 (by decide) (by decide) (Or.inr ⟨_, 2, w_1, List.mem_cons_of_mem _ List.mem_cons_self, ⟨Or.inr ⟨rfl, h9⟩, hx⟩, rfl, rfl⟩)
  obtain ⟨a, a1, a2, rfl⟩ : ∃ a : Int, -2147483648 ≤ a ∧ a < 2147483648 ∧ r_1 = zI a := ⟨r_1.toInt, (zI_rng r_1).1, (zI_rng r_1).2, (zI_of r_1).symm⟩
  refine g_in C (fun G2 C2 back2 => ?_)
  refine g_i2l C2 dL_sum_7 (by omega) (by omega) ?_
  refine g_lastZ C2 [oc E h (cset f 0 a)] 0 0 rfl (by omega) (by omega) (by decide) dL_sum_8 rfl ?_
  refine g_goto C2 18 dL_sum_9 (by decide) ?_
  refine g_iconst C2 dL_sum_18 ?_
  refine back2 _ _ _ _ _ _ ?_
  exact hret _ _ _ _ _ _ dL_sum_19 (by decide) (by decide) (Or.inl ⟨a, w_1, ⟨a1, a2⟩, h_1, rfl, rfl⟩)
