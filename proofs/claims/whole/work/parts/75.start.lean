/-! what the Statement gives at the start -/
theorem st_nest : ∀ q ∈ nestL, Cond.methodLinkNest q.1 q.2.1 q.2.2 "ClosedSums" ∈ lw_tbl := by decide +kernel
theorem st_cast : ∀ X ∈ xcL, Cond.castable X X ∈ lw_tbl := by decide +kernel
theorem st_decl : ∀ Y ∈ dcL, Cond.declares (Bundle.initS Y) ∈ lw_tbl := by decide +kernel
theorem st_str : ∀ q ∈ strL, Cond.stringRef RX7 q.1 q.2 ∈ lw_tbl := by decide +kernel
theorem st_strx : ∀ q ∈ strL, Cond.exactly (.string RX7 q.1) "java/lang/String" ∈ flatC (Jvm.Cond.and given_1 narrow_1) := by decide +kernel
theorem st_nc : ∀ q ∈ ncL, Cond.not (.castable q.1 q.2) ∈ flatC (Jvm.Cond.and given_1 narrow_1) := by decide +kernel
theorem st_lay : Cond.laysStatic Bundle.tN "UNASSIGNED_STACK" Bundle.steD ∈ lw_tbl ∧ Cond.laysStatic Bundle.tN "SUPPRESSED_SENTINEL" Bundle.listD ∈ lw_tbl ∧ Cond.initialized Bundle.tN ∈ lw_tbl := by decide +kernel
theorem st_ref : Cond.isRef (.static Bundle.tN "UNASSIGNED_STACK" Bundle.steD) ∈ flatC (Jvm.Cond.and given_1 narrow_1) ∧ Cond.isRef (.static Bundle.tN "SUPPRESSED_SENTINEL" Bundle.listD) ∈ flatC (Jvm.Cond.and given_1 narrow_1) := by decide +kernel
theorem st_arr : Cond.arrayClass .int ∈ lw_tbl ∧ Cond.arrayClass .long ∈ lw_tbl ∧ Cond.arrayOver (.object RX3) ∈ lw_tbl := by decide +kernel
theorem ao_T {U : State} {c comp : ClassId} {kA : Class} {ty : FieldType} (h2 : U.vm.classes[c]? = some kA) (h3 : kA.kind = .array comp ty) : ArrOfT U c ty := fun n z => ⟨fun k h => (by cases h), kA, h2, comp, h3⟩
theorem st_E {s : State} {args : Array Value} (hts : ∀ w ∈ lw_tbl, w.before args s = true) : ∃ E : ev, Kw E s := by
  obtain ⟨c0, i0, k0⟩ := u_known (C := RX0) (T := TX0) (N := 4) (n := 4) hts inX0 (hts (.instantiable RX0 4) (by decide +kernel))
  obtain ⟨c1, i1, k1⟩ := u_known (C := RX1) (T := TX1) (N := 8) (n := 8) hts inX1 (hts (.instantiable RX1 8) (by decide +kernel))
  obtain ⟨c2, i2, k2⟩ := u_known (C := RX2) (T := TX2) (N := 3) (n := 3) hts inX2 (hts (.instantiable RX2 3) (by decide +kernel))
  obtain ⟨c3, i3, k3⟩ := u_known (C := RX3) (T := TX3) (N := 2) (n := 2) hts inX3 (hts (.instantiable RX3 2) (by decide +kernel))
  obtain ⟨c4, i4, k4⟩ := u_known (C := RX4) (T := TX4) (N := 2) (n := 2) hts inX4 (hts (.instantiable RX4 2) (by decide +kernel))
  obtain ⟨c5, i5, k5⟩ := u_known (C := RX5) (T := TX5) (N := 2) (n := 2) hts inX5 (hts (.instantiable RX5 2) (by decide +kernel))
  obtain ⟨c6, i6, k6⟩ := u_known (C := RX6) (T := TX6) (N := 6) (n := 6) hts inX6 (hts (.instantiable RX6 6) (by decide +kernel))
  obtain ⟨c7, i7, k7⟩ := u_known (C := RX7) (T := TX7) (N := 7) (n := 7) hts inX7 (hts (.instantiable RX7 7) (by decide +kernel))
  obtain ⟨c8, i8, k8⟩ := u_known (C := RX8) (T := TX8) (N := 18) (n := 18) hts inX8 (hts (.instantiable RX8 18) (by decide +kernel))
  obtain ⟨cI, kI, pI, hI1, hI2, hI3⟩ := Cond.arrayClass_spec (hts _ st_arr.1)
  obtain ⟨cJ, kJ, pJ, hJ1, hJ2, hJ3⟩ := Cond.arrayClass_spec (hts _ st_arr.2.1)
  obtain ⟨pP, cP9, kP, hP1, -, hP2, hP3, hP4⟩ := Cond.arrayOver_spec (hts _ st_arr.2.2)
  refine ⟨(fun k => [c0, c1, c2, c3, c4, c5, c6, c7, c8].getD k 0, fun k => [i0, i1, i2, i3, i4, i5, i6, i7, i8].getD k (fun _ => 0), cI, cJ, cP9), ⟨fun k q hq => ?_, fun k q hq => ?_⟩, fun q hq => va_Nw.of rfl (hts _ (st_nest q hq)), va_AO.of (hts _ st_arr.2.2)⟩
  · match k, hq with
    | 0, hq => cases hq; exact k0
    | 1, hq => cases hq; exact k1
    | 2, hq => cases hq; exact k2
    | 3, hq => cases hq; exact k3
    | 4, hq => cases hq; exact k4
    | 5, hq => cases hq; exact k5
    | 6, hq => cases hq; exact k6
    | 7, hq => cases hq; exact k7
    | 8, hq => cases hq; exact k8
    | k + 9, hq => simp [vwCl] at hq
  · match k, hq with
    | 0, hq => cases hq; exact ⟨ao_T hI2 hI3, hI1⟩
    | 1, hq => cases hq; exact ⟨ao_T hJ2 hJ3, hJ1⟩
    | 2, hq => cases hq; exact ⟨ao_T hP2 hP3, kP, pP, hP2, hP3, hP1, hP4⟩
    | k + 3, hq => simp [tyE] at hq
theorem whole_start {p : Program} {e : Env} {s : State} {m : MethodId} {below : List Frame} {meth : Method} {c : Code} (l : Launch) (hl : l.stackTraces = false) {b L : Nat} {xs : Nat → Int32} (hL : L ≤ 2560) (C0 : lw_At p s m meth c b L xs) : W p l e room_1 s m #[Value.ref b] below meth c s.heap [] 0 0 (lw_Z below #[Value.ref b] s) (entryFrame m ([Value.ref b] : List Value).toArray 7) := by
  obtain ⟨hx, hb, hr, hml, hown, hts, hX, hbl, hlocks, hgv⟩ := id C0
  have hg := flat_of_before _ hgv
  obtain ⟨E, hK⟩ := st_E hts
  have hnA : ∀ a : Nat, a < s.heap.size → ¬ (fun q : Nat => s.heap.size ≤ q) a := fun a h => Nat.not_le.mpr h
  have hT : Thw s := ⟨fun X hX => va_Nw.of rfl (hts _ (st_cast X hX)), fun Y hY => va_Nw.of rfl (hts _ (st_decl Y hY)), fun q hq => by
    obtain ⟨a, c9, cA, kA, q1, -⟩ := Cond.exactly_spec (hg _ (st_strx q hq))
    exact ⟨a, vk_R.of (hts _ (st_str q hq)) q1⟩⟩
  have hZ : Thz (fun q => s.heap.size ≤ q) s s.heap := ⟨vx_Zqof (hts _ st_lay.1) (hts _ st_lay.2.2) (hg _ st_ref.1) hnA, vx_Zqof (hts _ st_lay.2.1) (hts _ st_lay.2.2) (hg _ st_ref.2) hnA⟩
  have hN : Ncs s := fun q hq => va_Nc.of (hg _ (st_nc q hq))
  have CL : OkL (gg E p l e room_1 s m #[Value.ref b] below meth c (fun q => s.heap.size ≤ q) (lw_Z below #[Value.ref b] s) 7 []) E l meth.name b L xs := ⟨p, e, s, m, below, meth, c, rfl, C0, rfl, hK, hT, hZ, hN⟩
  rw [lg_entry_eq]
  exact law_walk CL hl hL s.heap [] _ (fun k q h => by simp at h) ⟨fun i j p q h => by simp at h, fun k q h => by simp at h⟩ va_S.rf (lv_entry [.ref b] (Nat.le_of_ble_eq_true rfl))
