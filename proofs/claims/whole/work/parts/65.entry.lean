/-! what the Statement gives of the start -/
set_option maxRecDepth 20000 in
theorem nest_in : ∀ w ∈ nestW, w ∈ lw_tbl := by decide +kernel
set_option maxRecDepth 20000 in
theorem exc_in : ∀ w ∈ excW, w ∈ lw_tbl := by decide +kernel
set_option maxRecDepth 20000 in
set_option maxHeartbeats 1000000 in
theorem ev_start {s : State} {b : Nat} (hts : ∀ w ∈ lw_tbl, w.before #[Value.ref b] s = true) (hgv : (Jvm.Cond.and given_1 narrow_1).before #[Value.ref b] s = true) : ∃ q : Nat, ∀ ad : Nat → Nat, ad 50 = q → EV ad s.heap.size s s.heap := by
  have hA : ∀ a : Nat, a < s.heap.size → ¬ LA s.heap.size a := fun a h => Nat.not_le.mpr h
  have hs := flat_of_before _ hgv
  obtain ⟨t, ht, hT⟩ := va_Tof (tm := .static RX1 "RATES" "[I") (ty := .int) (N := 3) (f := rates) (A := LA s.heap.size) (by decide) (hs (.arrayOf (.static RX1 "RATES" "[I") .int) (by decide +kernel)) (va_eqt (hs (.eq (.length (.static RX1 "RATES" "[I")) (.int 3)) (by decide +kernel))) (fun j hj => by
    rcases (show j = 0 ∨ j = 1 ∨ j = 2 by omega) with rfl | rfl | rfl
    · exact va_eqt (hs (.eq (.elem (.static RX1 "RATES" "[I") (.int 0)) (.int 3)) (by decide +kernel))
    · exact va_eqt (hs (.eq (.elem (.static RX1 "RATES" "[I") (.int 1)) (.int 2)) (by decide +kernel))
    · exact va_eqt (hs (.eq (.elem (.static RX1 "RATES" "[I") (.int 2)) (.int 1)) (by decide +kernel))) hA
  refine ⟨t, fun ad h50 => ⟨Nat.le_refl _, fun w hw => va_Nw.of (nest_on w hw) (hts w (nest_in w hw)), fun w hw => va_Nw.of (exc_on w hw) (hts w (exc_in w hw)), ?_, vx_Zqof (hts (.laysStatic Bundle.tN "UNASSIGNED_STACK" Bundle.steD) (by decide +kernel)) (hts (.initialized Bundle.tN) (by decide +kernel)) (hs (.isRef (.static Bundle.tN "UNASSIGNED_STACK" Bundle.steD)) (by decide +kernel)) hA, vx_Zqof (hts (.laysStatic Bundle.tN "SUPPRESSED_SENTINEL" Bundle.listD) (by decide +kernel)) (hts (.initialized Bundle.tN) (by decide +kernel)) (hs (.isRef (.static Bundle.tN "SUPPRESSED_SENTINEL" Bundle.listD)) (by decide +kernel)) hA, by rw [h50]; exact va_Zof (hts (.laysStatic RX1 "RATES" "[I") (by decide +kernel)) (hts (.initialized RX1) (by decide +kernel)) ht hA, by rw [h50]; exact hT⟩⟩
  intro q hq
  simp only [strs, List.mem_cons, List.not_mem_nil, or_false] at hq
  rcases hq with rfl | rfl | rfl | rfl | rfl
  · obtain ⟨a, _, _, _, h1, -⟩ := Cond.exactly_spec (hs (.exactly (.string RX1 131) "java/lang/String") (by decide +kernel))
    exact ⟨a, vk_R.of (hts (.stringRef RX1 131 "no such hook") (by decide +kernel)) h1⟩
  · obtain ⟨a, _, _, _, h1, -⟩ := Cond.exactly_spec (hs (.exactly (.string RX1 133) "java/lang/String") (by decide +kernel))
    exact ⟨a, vk_R.of (hts (.stringRef RX1 133 "no such make") (by decide +kernel)) h1⟩
  · obtain ⟨a, _, _, _, h1, -⟩ := Cond.exactly_spec (hs (.exactly (.string RX1 48) "java/lang/String") (by decide +kernel))
    exact ⟨a, vk_R.of (hts (.stringRef RX1 48 "too many places") (by decide +kernel)) h1⟩
  · obtain ⟨a, _, _, _, h1, -⟩ := Cond.exactly_spec (hs (.exactly (.string RX1 139) "java/lang/String") (by decide +kernel))
    exact ⟨a, vk_R.of (hts (.stringRef RX1 139 "no such person") (by decide +kernel)) h1⟩
  · obtain ⟨a, _, _, _, h1, -⟩ := Cond.exactly_spec (hs (.exactly (.string RX1 122) "java/lang/String") (by decide +kernel))
    exact ⟨a, vk_R.of (hts (.stringRef RX1 122 "no such place") (by decide +kernel)) h1⟩
set_option maxRecDepth 20000 in
theorem k_start {s : State} {b : Nat} (hts : ∀ w ∈ lw_tbl, w.before #[Value.ref b] s = true) : ∃ (D : va_G) (ci : Nat → ClassId), va_K D vwCl (tyC ci) s := by
  obtain ⟨c0, i0, k0⟩ := u_known (C := RX0) (T := TX0) (N := 3) (n := 3) hts inX0 (hts (.instantiable RX0 3) (by decide +kernel))
  obtain ⟨c1, i1, k1⟩ := u_known (C := RX1) (T := TX1) (N := 7) (n := 7) hts inX1 (hts (.instantiable RX1 7) (by decide +kernel))
  obtain ⟨c2, i2, k2⟩ := u_known (C := RX2) (T := TX2) (N := 9) (n := 9) hts inX2 (hts (.instantiable RX2 9) (by decide +kernel))
  obtain ⟨a0, b0, m0, f0, g0, h0⟩ := Cond.arrayClass_spec (hts (.arrayClass .int) (by decide +kernel))
  obtain ⟨a1, b1, m1, f1, g1, h1⟩ := Cond.arrayClass_spec (hts (.arrayClass .long) (by decide +kernel))
  obtain ⟨m2, a2, b2, e2, -, g2, h2, f2⟩ := Cond.arrayOver_spec (n := RX0) (hts (.arrayOver (.object RX0)) (by decide +kernel))
  refine ⟨(fun k => if k = 0 then c0 else if k = 1 then c1 else c2, fun k => if k = 0 then i0 else if k = 1 then i1 else i2), fun k => if k = 0 then a0 else if k = 1 then a1 else a2, fun k q hq => ?_, fun k q hq => ?_⟩
  · match k, hq with
    | 0, hq => cases hq; exact k0
    | 1, hq => cases hq; exact k1
    | 2, hq => cases hq; exact k2
    | k + 3, hq => simp [vwCl] at hq
  · match k, hq with
    | 0, hq => cases hq; exact ⟨fun n z => ⟨fun k h => (by cases h), b0, g0, m0, h0⟩, f0⟩
    | 1, hq => cases hq; exact ⟨fun n z => ⟨fun k h => (by cases h), b1, g1, m1, h1⟩, f1⟩
    | 2, hq => cases hq; exact ⟨fun n z => ⟨fun k h => (by cases h), b2, g2, m2, h2⟩, b2, m2, g2, h2, e2, f2⟩
    | k + 3, hq => simp [tyC] at hq
set_option maxRecDepth 20000 in
theorem nc_start {s : State} {b : Nat} (hgv : (Jvm.Cond.and given_1 narrow_1).before #[Value.ref b] s = true) : va_Nc nsN iaeN s := va_Nc.of (flat_of_before _ hgv (.not (.castable nsN iaeN)) (by decide +kernel))
set_option maxRecDepth 20000 in
theorem ao_start {s : State} {b : Nat} (hts : ∀ w ∈ lw_tbl, w.before #[Value.ref b] s = true) : va_AO RX0 s := va_AO.of (hts (.arrayOver (.object RX0)) (by decide +kernel))
theorem WDO.fb {D : va_G} {ci : Nat → ClassId} {ad : Nat → Nat} {z : Nat} {ws : va_W} {av : List Value} {A : String} : FrameBlind (va_Pc av (fun U => WD D ci ad z ws U ∧ va_AO A U)) := by
  intro a U g mk q
  obtain ⟨q0, ⟨qP, qD, qK, qE⟩, qN⟩ := q
  exact ⟨q0, ⟨qP, qD, va_K.moved (u := U) (U := U.calling g mk a) (Vm.Alike.refl U.vm) qK, EV.same (s := U) (U := U.calling g mk a) rfl rfl qE⟩, va_AO.moved (u := U) (U := U.calling g mk a) (Vm.Alike.refl U.vm) qN⟩
theorem lw_pm2 (A B : va_W) (o : Nat × va_E) : (B ++ o :: A).Perm (A ++ o :: B) := (List.perm_middle.trans ((List.perm_append_comm).cons o)).trans List.perm_middle.symm
