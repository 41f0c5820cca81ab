set_option maxHeartbeats 4000000 in
set_option maxRecDepth 100000 in
theorem c_X1_requireHook (l : Launch) (D : va_G) (ci : Nat → ClassId) (ad : Nat → Nat) (z : Nat) (F : va_W) (hf : Nat → Nat) (ft : Nat → Int64) (fk : Nat → Int32) (fp : Nat → Int64) (n : Nat) (mk : Nat → Int32) (sz : Nat → Nat) (pl : Nat → Nat → Int64) (x : Int32) (hlt : l.stackTraces = false) : vx_Met l yX1_requireHook wsX1_requireHook ({ frames := 6, cells := 1, slots := 6, locals := 90 }) (va_Pc [.int x] (fun U => WD D ci ad z (wC ci ad hf ft fk fp n mk sz pl ++ F) U)) (va_Qv (fun (u : Unit) => ∃ j, j < 8 ∧ x = nI j) (fun u t => va_P D vwCl (wC ci ad hf ft fk fp n mk sz pl ++ F) t.heap ∧ va_D (LA z) (wC ci ad hf ft fk fp n mk sz pl ++ F)) (LA z)) (XT D z (wC ci ad hf ft fk fp n mk sz pl ++ F) (fun E => E = iaeN ∧ (x < 0 ∨ 8 ≤ x))) 1 6 (LA z) := by
  refine vx_ofW (cc := cX1_requireHook) (maxL := 1) (ret := none) (by decide) rfl ?_
  intro p e s m args below meth c s₁ B hml hex hv
  obtain ⟨rfl, hP, hD, hK, hE⟩ := hv
  have hx := B.exec
  have hb := B.bytes
  have hr := B.returns
  have hts := atoms_spec (ws := wsX1_requireHook) B.pre
  have hown : s.vm.findClass RX1 = some m.cls := findClass_of_methodNamed B.named
  have hlocks := B.notSynchronized
  have hS : va_S (LA z) s.heap s.heap [] := va_S.rf
  have hex0 : ∀ (j : Nat), ∀ x ∈ c.exceptionTable.toList, covers x j = false := fun _ x hx => (hex x hx).elim
  have hl := lv_entry ([.int x]) (n := 1) (Nat.le_of_ble_eq_true rfl)
  rw [lg_entry_eq]
  generalize (lg_sl ([.int x]) ++ List.replicate (1 - (lg_sl ([.int x])).length) Slot.unset).toArray = ls at hl ⊢
  have hl : lv_has ls 1 [(0, .int x)] := hl
  refine lv_iload_n hx hb dX1_requireHook_0 rfl (lv_at hl 0 rfl) ?_
  refine lv_if_lt (tgt := 10) hx hb dX1_requireHook_1 (by decide) (fun c1 => ?_) (fun c1 => ?_)
  · skip
    exact rt_iae (text := "no such hook") hx hb hlt hown hts (by decide +kernel) (by decide +kernel) (fun w h => by first | exact List.mem_cons_of_mem _ (List.mem_append_right _ h) | exact List.mem_cons_of_mem _ (List.mem_append_left _ (List.mem_append_right _ h))) hE (by decide +kernel) hS (hl.1.trans hml.symm) dX1_requireHook_10 dX1_requireHook_13 dX1_requireHook_14 dX1_requireHook_16 dX1_requireHook_19 (hex0 _) (Nat.le_of_ble_eq_true rfl) (Nat.le_of_ble_eq_true rfl) (Nat.le_of_ble_eq_true rfl) (Nat.le_of_ble_eq_true rfl) (Nat.le_of_ble_eq_true rfl) (Nat.le_of_ble_eq_true rfl) hlocks hP hD ⟨rfl, Or.inl c1⟩
  · skip
    refine lv_iload_n hx hb dX1_requireHook_4 rfl (lv_at hl 0 rfl) ?_
    refine lv_bipush (v := 8) hx hb dX1_requireHook_5 (by decide) ?_
    refine lv_icmp_lt (tgt := 20) hx hb dX1_requireHook_7 (by decide) (fun c7 => ?_) (fun c7 => ?_)
    · skip
      refine vx_ret ?_
      refine W.widen (k := 1) (n := 6) (by decide) (by decide) ?_
      exact W.vret hx hb hr (fun t ht _ => ⟨⟨(()), rfl, hk_in c1 c7, by rw [ht]; exact hP, hD⟩, hS.F ht⟩) hS.2.2 dX1_requireHook_20
    · skip
      exact rt_iae (text := "no such hook") hx hb hlt hown hts (by decide +kernel) (by decide +kernel) (fun w h => by first | exact List.mem_cons_of_mem _ (List.mem_append_right _ h) | exact List.mem_cons_of_mem _ (List.mem_append_left _ (List.mem_append_right _ h))) hE (by decide +kernel) hS (hl.1.trans hml.symm) dX1_requireHook_10 dX1_requireHook_13 dX1_requireHook_14 dX1_requireHook_16 dX1_requireHook_19 (hex0 _) (Nat.le_of_ble_eq_true rfl) (Nat.le_of_ble_eq_true rfl) (Nat.le_of_ble_eq_true rfl) (Nat.le_of_ble_eq_true rfl) (Nat.le_of_ble_eq_true rfl) (Nat.le_of_ble_eq_true rfl) hlocks hP hD ⟨rfl, Or.inr (i32_ge c7)⟩
set_option maxHeartbeats 4000000 in
set_option maxRecDepth 100000 in
theorem c_X1_requireMake (l : Launch) (D : va_G) (ci : Nat → ClassId) (ad : Nat → Nat) (z : Nat) (F : va_W) (hf : Nat → Nat) (ft : Nat → Int64) (fk : Nat → Int32) (fp : Nat → Int64) (n : Nat) (mk : Nat → Int32) (sz : Nat → Nat) (pl : Nat → Nat → Int64) (x : Int32) (hlt : l.stackTraces = false) : vx_Met l yX1_requireMake wsX1_requireMake ({ frames := 6, cells := 1, slots := 6, locals := 90 }) (va_Pc [.int x] (fun U => WD D ci ad z (wC ci ad hf ft fk fp n mk sz pl ++ F) U)) (va_Qv (fun (u : Unit) => ¬ x < 0 ∧ x ≤ 6) (fun u t => va_P D vwCl (wC ci ad hf ft fk fp n mk sz pl ++ F) t.heap ∧ va_D (LA z) (wC ci ad hf ft fk fp n mk sz pl ++ F)) (LA z)) (XT D z (wC ci ad hf ft fk fp n mk sz pl ++ F) (fun E => E = iaeN ∧ (x < 0 ∨ 6 < x))) 1 6 (LA z) := by
  refine vx_ofW (cc := cX1_requireMake) (maxL := 1) (ret := none) (by decide) rfl ?_
  intro p e s m args below meth c s₁ B hml hex hv
  obtain ⟨rfl, hP, hD, hK, hE⟩ := hv
  have hx := B.exec
  have hb := B.bytes
  have hr := B.returns
  have hts := atoms_spec (ws := wsX1_requireMake) B.pre
  have hown : s.vm.findClass RX1 = some m.cls := findClass_of_methodNamed B.named
  have hlocks := B.notSynchronized
  have hS : va_S (LA z) s.heap s.heap [] := va_S.rf
  have hex0 : ∀ (j : Nat), ∀ x ∈ c.exceptionTable.toList, covers x j = false := fun _ x hx => (hex x hx).elim
  have hl := lv_entry ([.int x]) (n := 1) (Nat.le_of_ble_eq_true rfl)
  rw [lg_entry_eq]
  generalize (lg_sl ([.int x]) ++ List.replicate (1 - (lg_sl ([.int x])).length) Slot.unset).toArray = ls at hl ⊢
  have hl : lv_has ls 1 [(0, .int x)] := hl
  refine lv_iload_n hx hb dX1_requireMake_0 rfl (lv_at hl 0 rfl) ?_
  refine lv_if_lt (tgt := 10) hx hb dX1_requireMake_1 (by decide) (fun c1 => ?_) (fun c1 => ?_)
  · skip
    exact rt_iae (text := "no such make") hx hb hlt hown hts (by decide +kernel) (by decide +kernel) (fun w h => by first | exact List.mem_cons_of_mem _ (List.mem_append_right _ h) | exact List.mem_cons_of_mem _ (List.mem_append_left _ (List.mem_append_right _ h))) hE (by decide +kernel) hS (hl.1.trans hml.symm) dX1_requireMake_10 dX1_requireMake_13 dX1_requireMake_14 dX1_requireMake_16 dX1_requireMake_19 (hex0 _) (Nat.le_of_ble_eq_true rfl) (Nat.le_of_ble_eq_true rfl) (Nat.le_of_ble_eq_true rfl) (Nat.le_of_ble_eq_true rfl) (Nat.le_of_ble_eq_true rfl) (Nat.le_of_ble_eq_true rfl) hlocks hP hD ⟨rfl, Or.inl c1⟩
  · skip
    refine lv_iload_n hx hb dX1_requireMake_4 rfl (lv_at hl 0 rfl) ?_
    refine lv_bipush (v := 6) hx hb dX1_requireMake_5 (by decide) ?_
    refine lv_icmp_le (tgt := 20) hx hb dX1_requireMake_7 (by decide) (fun c7 => ?_) (fun c7 => ?_)
    · skip
      refine vx_ret ?_
      refine W.widen (k := 1) (n := 6) (by decide) (by decide) ?_
      exact W.vret hx hb hr (fun t ht _ => ⟨⟨(()), rfl, ⟨c1, c7⟩, by rw [ht]; exact hP, hD⟩, hS.F ht⟩) hS.2.2 dX1_requireMake_20
    · skip
      exact rt_iae (text := "no such make") hx hb hlt hown hts (by decide +kernel) (by decide +kernel) (fun w h => by first | exact List.mem_cons_of_mem _ (List.mem_append_right _ h) | exact List.mem_cons_of_mem _ (List.mem_append_left _ (List.mem_append_right _ h))) hE (by decide +kernel) hS (hl.1.trans hml.symm) dX1_requireMake_10 dX1_requireMake_13 dX1_requireMake_14 dX1_requireMake_16 dX1_requireMake_19 (hex0 _) (Nat.le_of_ble_eq_true rfl) (Nat.le_of_ble_eq_true rfl) (Nat.le_of_ble_eq_true rfl) (Nat.le_of_ble_eq_true rfl) (Nat.le_of_ble_eq_true rfl) (Nat.le_of_ble_eq_true rfl) hlocks hP hD ⟨rfl, Or.inr (Int32.not_le.mp c7)⟩
set_option maxHeartbeats 4000000 in
set_option maxRecDepth 100000 in
theorem c_X1_isHired (l : Launch) (D : va_G) (ci : Nat → ClassId) (ad : Nat → Nat) (z : Nat) (F : va_W) (hf : Nat → Nat) (ft : Nat → Int64) (fk : Nat → Int32) (fp : Nat → Int64) (n : Nat) (mk : Nat → Int32) (sz : Nat → Nat) (pl : Nat → Nat → Int64) (v : Int64) (hN : n ≤ 60) : Met l yX1_isHired wsX1_isHired ({ frames := 0, cells := 0, slots := 0, locals := 0 }) (va_Pc [.ref (ad 0), .long v] (fun U => WD D ci ad z (wC ci ad hf ft fk fp n mk sz pl ++ F) U)) (vp_Si (fun r => (r = 1 ∧ ∃ k, k < n ∧ v = lN k) ∨ (r = 0 ∧ (v < 0 ∨ (nI n).toInt64 ≤ v)))) 0 0 (fun _ => False) := by
  refine Met.ofW (cc := cX1_isHired) (maxL := 3) (ret := (some .boolean)) (by decide) rfl ?_
  intro p e s m args below meth c s₁ B hml hv
  obtain ⟨rfl, hP, hD, hK, hE⟩ := hv
  have hx := B.exec
  have hb := B.bytes
  have hr := B.returns
  have hts := atoms_spec (ws := wsX1_isHired) B.pre
  have hown : s.vm.findClass RX1 = some m.cls := findClass_of_methodNamed B.named
  have hlocks := B.notSynchronized
  have hS : va_S (LA z) s.heap s.heap [] := va_S.rf
  have hin1 : ∀ w ∈ wsX10, w ∈ wsX1_isHired := by decide +kernel
  have hl := lv_entry ([.ref (ad 0), .long v]) (n := 3) (Nat.le_of_ble_eq_true rfl)
  rw [lg_entry_eq]
  generalize (lg_sl ([.ref (ad 0), .long v]) ++ List.replicate (3 - (lg_sl ([.ref (ad 0), .long v])).length) Slot.unset).toArray = ls at hl ⊢
  have hl : lv_has ls 3 [(0, .ref (ad 0)), (1, .long v)] := hl
  refine lv_lload_n hx hb dX1_isHired_0 rfl (lv_at hl 1 rfl) ?_
  refine lv_lconst (v := 0) hx hb dX1_isHired_1 (by decide) ?_
  refine lv_lcmp3 hx hb dX1_isHired_2 (fun x_1 ex_1 => ?_)
  refine lv_if_lt (tgt := 20) hx hb dX1_isHired_3 (by decide) (fun c3 => ?_) (fun c3 => ?_)
  · skip
    refine lv_iconst (v := 0) hx hb dX1_isHired_20 (by decide) ?_
    exact W.zret (v := 0) hx hb hr rfl (fun t ht _ => ⟨_, rfl, Or.inr ⟨rfl, Or.inl (lc_lt ex_1 c3)⟩, ht⟩) (fun _ h => nomatch h) dX1_isHired_21
  · skip
    refine lv_lload_n hx hb dX1_isHired_6 rfl (lv_at hl 1 rfl) ?_
    refine lv_aload_n hx hb dX1_isHired_7 rfl (lv_at hl 0 rfl) ?_
    refine va_get (D := D) (ci := 1) (C := RX1) (T := TX1) (N := 7) hx hb hts hin1 hown hK hP 0 rfl rfl 6 (by decide) (hts (.fieldLink RX1 36 "DutyRota" "hired" "I") (by decide +kernel)) (fun _ h9 => h9) rfl dX1_isHired_8 ?_
    refine lv_i2l hx hb dX1_isHired_11 rfl ?_
    refine lv_lcmp3 hx hb dX1_isHired_12 (fun x_2 ex_2 => ?_)
    refine lv_if_ge (tgt := 20) hx hb dX1_isHired_13 (by decide) (fun c13 => ?_) (fun c13 => ?_)
    · skip
      refine lv_iconst (v := 0) hx hb dX1_isHired_20 (by decide) ?_
      exact W.zret (v := 0) hx hb hr rfl (fun t ht _ => ⟨_, rfl, Or.inr ⟨rfl, Or.inr (lc_ge ex_2 c13)⟩, ht⟩) (fun _ h => nomatch h) dX1_isHired_21
    · skip
      refine lv_iconst (v := 1) hx hb dX1_isHired_16 (by decide) ?_
      refine lv_goto (tgt := 21) hx hb dX1_isHired_17 (by decide) ?_
      exact W.zret (v := 1) hx hb hr rfl (fun t ht _ => ⟨_, rfl, Or.inl ⟨rfl, lN_of hN (lc_nlt ex_1 c3) (lc_nge ex_2 c13)⟩, ht⟩) (fun _ h => nomatch h) dX1_isHired_21
set_option maxHeartbeats 4000000 in
set_option maxRecDepth 100000 in
theorem c_X1_requirePerson (l : Launch) (D : va_G) (ci : Nat → ClassId) (ad : Nat → Nat) (z : Nat) (F : va_W) (hf : Nat → Nat) (ft : Nat → Int64) (fk : Nat → Int32) (fp : Nat → Int64) (n : Nat) (mk : Nat → Int32) (sz : Nat → Nat) (pl : Nat → Nat → Int64) (x : Int32) (hlt : l.stackTraces = false) (hN : n ≤ 60) : vx_Met l yX1_requirePerson wsX1_requirePerson ({ frames := 6, cells := 1, slots := 6, locals := 90 }) (va_Pc [.ref (ad 0), .int x] (fun U => WD D ci ad z (wC ci ad hf ft fk fp n mk sz pl ++ F) U)) (va_Qv (fun (u : Unit) => ∃ k, k < n ∧ x = nI k) (fun u t => va_P D vwCl (wC ci ad hf ft fk fp n mk sz pl ++ F) t.heap ∧ va_D (LA z) (wC ci ad hf ft fk fp n mk sz pl ++ F)) (LA z)) (XT D z (wC ci ad hf ft fk fp n mk sz pl ++ F) (fun E => E = nsN ∧ (x < 0 ∨ nI n ≤ x))) 1 6 (LA z) := by
  refine vx_ofW (cc := cX1_requirePerson) (maxL := 2) (ret := none) (by decide) rfl ?_
  intro p e s m args below meth c s₁ B hml hex hv
  obtain ⟨rfl, hP, hD, hK, hE⟩ := hv
  have hx := B.exec
  have hb := B.bytes
  have hr := B.returns
  have hts := atoms_spec (ws := wsX1_requirePerson) B.pre
  have hown : s.vm.findClass RX1 = some m.cls := findClass_of_methodNamed B.named
  have hlocks := B.notSynchronized
  have hS : va_S (LA z) s.heap s.heap [] := va_S.rf
  have hex0 : ∀ (j : Nat), ∀ x ∈ c.exceptionTable.toList, covers x j = false := fun _ x hx => (hex x hx).elim
  have hl := lv_entry ([.ref (ad 0), .int x]) (n := 2) (Nat.le_of_ble_eq_true rfl)
  rw [lg_entry_eq]
  generalize (lg_sl ([.ref (ad 0), .int x]) ++ List.replicate (2 - (lg_sl ([.ref (ad 0), .int x])).length) Slot.unset).toArray = ls at hl ⊢
  have hl : lv_has ls 2 [(0, .ref (ad 0)), (1, .int x)] := hl
  refine lv_aload_n hx hb dX1_requirePerson_0 rfl (lv_at hl 0 rfl) ?_
  refine lv_iload_n hx hb dX1_requirePerson_1 rfl (lv_at hl 1 rfl) ?_
  refine lv_i2l hx hb dX1_requirePerson_2 rfl ?_
  refine vp_callSi (W.runV (As := [.long x.toInt64]) (rest := []) ⟨hx, hb, hml, hown, hts⟩ (c_X1_isHired l D ci ad z F hf ft fk fp n mk sz pl x.toInt64 hN) (cwV 1 hts gX1_requirePerson_X1_isHired rfl rfl rfl (by decide +kernel) ⟨Nat.le_of_ble_eq_true rfl, Nat.le_of_ble_eq_true rfl⟩) ⟨WD.fb, (va_recv hK hP (ci := 1) (q0 := 0) rfl rfl), fun U hU hW => ⟨rfl, WD.call hP hD hK hE hS hU hW⟩⟩ rfl rfl hl.1 rfl (lv_room (Nat.le_of_ble_eq_true rfl)) dX1_requirePerson_3 ⟨Nat.le_of_ble_eq_true rfl, Nat.le_of_ble_eq_true rfl⟩) (fun r3 hw3 => ?_)
  rcases hw3 with ⟨rfl, h3⟩ | ⟨rfl, h3⟩
  · skip
    refine lv_if_ne (tgt := 19) hx hb dX1_requirePerson_6 (by decide) (fun c6 => ?_) (fun c6 => absurd c6 (by decide))
    refine vx_ret ?_
    refine W.widen (k := 1) (n := 6) (by decide) (by decide) ?_
    exact W.vret hx hb hr (fun t ht _ => ⟨⟨(()), rfl, pe_in hN h3, by rw [ht]; exact hP, hD⟩, hS.F ht⟩) hS.2.2 dX1_requirePerson_19
  · skip
    refine lv_if_ne (tgt := 19) hx hb dX1_requirePerson_6 (by decide) (fun c6 => absurd c6 (by decide)) (fun c6 => ?_)
    exact rt_ns (text := "no such person") hx hb hlt hown hts (by decide +kernel) (by decide +kernel) (fun w h => by first | exact List.mem_cons_of_mem _ (List.mem_append_right _ h) | exact List.mem_cons_of_mem _ (List.mem_append_left _ (List.mem_append_right _ h))) hE (by decide +kernel) hS (hl.1.trans hml.symm) dX1_requirePerson_9 dX1_requirePerson_12 dX1_requirePerson_13 dX1_requirePerson_15 dX1_requirePerson_18 (hex0 _) (Nat.le_of_ble_eq_true rfl) (Nat.le_of_ble_eq_true rfl) (Nat.le_of_ble_eq_true rfl) (Nat.le_of_ble_eq_true rfl) (Nat.le_of_ble_eq_true rfl) (Nat.le_of_ble_eq_true rfl) hlocks hP hD ⟨rfl, pe_out h3⟩
set_option maxHeartbeats 4000000 in
set_option maxRecDepth 100000 in
theorem c_X1_leastHookWith (l : Launch) (D : va_G) (ci : Nat → ClassId) (ad : Nat → Nat) (z : Nat) (F : va_W) (hf : Nat → Nat) (ft : Nat → Int64) (fk : Nat → Int32) (fp : Nat → Int64) (n : Nat) (mk : Nat → Int32) (sz : Nat → Nat) (pl : Nat → Nat → Int64) (i : Nat) (hi : i < 10) (hHF : ∀ h, h < 8 → hf h < 10) : Met l yX1_leastHookWith wsX1_leastHookWith ({ frames := 0, cells := 0, slots := 0, locals := 0 }) (va_Pc [.ref (ad 0), .ref (ad (10 + i))] (fun U => WD D ci ad z (wC ci ad hf ft fk fp n mk sz pl ++ F) U)) (vp_Si (fun r => lhP hf i r)) 0 0 (fun _ => False) := by
  refine Met.ofW (cc := cX1_leastHookWith) (maxL := 3) (ret := (some .int)) (by decide) rfl ?_
  intro p e s m args below meth c s₁ B hml hv
  obtain ⟨rfl, hP, hD, hK, hE⟩ := hv
  have hx := B.exec
  have hb := B.bytes
  have hr := B.returns
  have hts := atoms_spec (ws := wsX1_leastHookWith) B.pre
  have hown : s.vm.findClass RX1 = some m.cls := findClass_of_methodNamed B.named
  have hlocks := B.notSynchronized
  have hS : va_S (LA z) s.heap s.heap [] := va_S.rf
  have hin1 : ∀ w ∈ wsX10, w ∈ wsX1_leastHookWith := by decide +kernel
  have hl := lv_entry ([.ref (ad 0), .ref (ad (10 + i))]) (n := 3) (Nat.le_of_ble_eq_true rfl)
  rw [lg_entry_eq]
  generalize (lg_sl ([.ref (ad 0), .ref (ad (10 + i))]) ++ List.replicate (3 - (lg_sl ([.ref (ad 0), .ref (ad (10 + i))])).length) Slot.unset).toArray = ls at hl ⊢
  have hl : lv_has ls 3 [(0, .ref (ad 0)), (1, .ref (ad (10 + i)))] := hl
  refine lv_iconst (v := 0) hx hb dX1_leastHookWith_0 (by decide) ?_
  refine lv_istore_n (lv' := [(2, .int 0), (0, .ref (ad 0)), (1, .ref (ad (10 + i)))]) hx hb dX1_leastHookWith_1 rfl hl (by decide) rfl (fun ls hl => ?_)
  have loop2 : ∀ (d2 : Nat) (k : Nat) (hd2 : 8 + 1 ≤ k + d2) (hk : k ≤ 8) (hno : ∀ h', h' < k → ¬ hf h' = i) (ls : Array Slot) (hl : lv_has ls 3 [(2, .int (nI k)), (0, .ref (ad 0)), (1, .ref (ad (10 + i)))]), W p l e ({ frames := 0, cells := 0, slots := 0, locals := 0 } : Room) s m ([.ref (ad 0), .ref (ad (10 + i))] : List Value).toArray below meth c s.heap [] 0 0 (MQ below (vp_Si (fun r => lhP hf i r)) ([.ref (ad 0), .ref (ad (10 + i))] : List Value).toArray s 0 0 (fun _ => False)) (F0 m 2 ls []) := by
    intro d2
    induction d2 with
    | zero => intro k hd2 hk hno ls hl; exact absurd hd2 (by omega)
    | succ d2 ih2 =>
      intro k hd2 hk hno ls hl
      refine lv_iload_n hx hb dX1_leastHookWith_2 rfl (lv_at hl 0 rfl) ?_
      refine lv_bipush (v := 8) hx hb dX1_leastHookWith_3 (by decide) ?_
      refine lv_icmp_ge (tgt := 26) hx hb dX1_leastHookWith_5 (by decide) (fun c5 => ?_) (fun c5 => ?_)
      · skip
        have h8 : k = 8 := by have := nI_ge_of (a := k) (b := 8) c5 (by omega) (by omega); omega
        refine lv_iconst (v := -1) hx hb dX1_leastHookWith_26 (by decide) ?_
        exact W.iret (v := (-1)) hx hb hr (fun t ht _ => ⟨_, rfl, Or.inr ⟨fun h hh => hno h (by omega), rfl⟩, ht⟩) (fun _ h => nomatch h) dX1_leastHookWith_27
      · skip
        have h8 : k < 8 := nI_lt_of (a := k) (b := 8) c5 (by omega) (by omega)
        refine lv_aload_n hx hb dX1_leastHookWith_8 rfl (lv_at hl 1 rfl) ?_
        refine va_get (D := D) (ci := 1) (C := RX1) (T := TX1) (N := 7) hx hb hts hin1 hown hK hP 0 rfl rfl 1 (by decide) (hts (.fieldLink RX1 18 "DutyRota" "hooks" "[LDutyRota$Sheet;") (by decide +kernel)) (fun _ h9 => h9) rfl dX1_leastHookWith_9 ?_
        refine lv_iload_n hx hb dX1_leastHookWith_12 rfl (lv_at hl 0 rfl) ?_
        refine rw_rld hx hb hK hP 1 2 rfl rfl (j := k) (rfl) (by omega) (by decide) rfl dX1_leastHookWith_13 ?_
        refine lv_aload_n hx hb dX1_leastHookWith_14 rfl (lv_at hl 2 rfl) ?_
        refine rw_acne (tgt := 20) hx hb dX1_leastHookWith_15 (by decide) (fun c15 => ?_) (fun c15 => ?_)
        · skip
          have hne : ¬ hf k = i := fun h => c15 (by rw [h])
          refine lv_iinc (v := (nI (k + 1))) (lv' := [(2, .int (nI (k + 1))), (0, .ref (ad 0)), (1, .ref (ad (10 + i)))]) hx hb dX1_leastHookWith_20 hl (k := 0) rfl (nI_1 _) (by decide) rfl (fun ls hl => ?_)
          refine lv_goto (tgt := 2) hx hb dX1_leastHookWith_23 (by decide) ?_
          exact ih2 (k + 1) (by omega) (by omega) (lt_s hno hne) ls (lv_sub hl [0, 1, 2] rfl)
        · skip
          have heq : hf k = i := wC_inj hD (hHF k h8) hi c15
          refine lv_iload_n hx hb dX1_leastHookWith_18 rfl (lv_at hl 0 rfl) ?_
          exact W.iret (v := (nI k)) hx hb hr (fun t ht _ => ⟨_, rfl, Or.inl ⟨k, h8, heq, hno, rfl⟩, ht⟩) (fun _ h => nomatch h) dX1_leastHookWith_19
  exact loop2 (8 + 1) 0 (by omega) (by omega) (fun h' h => absurd h (by omega)) ls (lv_sub hl [0, 1, 2] rfl)
set_option maxHeartbeats 4000000 in
set_option maxRecDepth 100000 in
theorem c_X1_idleSheet (l : Launch) (D : va_G) (ci : Nat → ClassId) (ad : Nat → Nat) (z : Nat) (F : va_W) (hf : Nat → Nat) (ft : Nat → Int64) (fk : Nat → Int32) (fp : Nat → Int64) (n : Nat) (mk : Nat → Int32) (sz : Nat → Nat) (pl : Nat → Nat → Int64) (hHF : ∀ h, h < 8 → hf h < 10) : Met l yX1_idleSheet wsX1_idleSheet ({ frames := 1, cells := 0, slots := 0, locals := 22 }) (va_Pc [.ref (ad 0)] (fun U => WD D ci ad z (wC ci ad hf ft fk fp n mk sz pl ++ F) U)) (va_Sr (fun k => k < 9 ∧ ∀ h, h < 8 → ¬ hf h = k) (fun k => .ref (ad (10 + k)))) 0 0 (fun _ => False) := by
  refine Met.ofW (cc := cX1_idleSheet) (maxL := 2) (ret := (some (.object "DutyRota$Sheet"))) (by decide) rfl ?_
  intro p e s m args below meth c s₁ B hml hv
  obtain ⟨rfl, hP, hD, hK, hE⟩ := hv
  have hx := B.exec
  have hb := B.bytes
  have hr := B.returns
  have hts := atoms_spec (ws := wsX1_idleSheet) B.pre
  have hown : s.vm.findClass RX1 = some m.cls := findClass_of_methodNamed B.named
  have hlocks := B.notSynchronized
  have hS : va_S (LA z) s.heap s.heap [] := va_S.rf
  have hin1 : ∀ w ∈ wsX10, w ∈ wsX1_idleSheet := by decide +kernel
  have hl := lv_entry ([.ref (ad 0)]) (n := 2) (Nat.le_of_ble_eq_true rfl)
  rw [lg_entry_eq]
  generalize (lg_sl ([.ref (ad 0)]) ++ List.replicate (2 - (lg_sl ([.ref (ad 0)])).length) Slot.unset).toArray = ls at hl ⊢
  have hl : lv_has ls 2 [(0, .ref (ad 0))] := hl
  refine lv_iconst (v := 0) hx hb dX1_idleSheet_0 (by decide) ?_
  refine lv_istore_n (lv' := [(1, .int 0), (0, .ref (ad 0))]) hx hb dX1_idleSheet_1 rfl hl (by decide) rfl (fun ls hl => ?_)
  have loop2 : ∀ (d2 : Nat) (q : Nat) (hd2 : 8 + 1 ≤ q + d2) (hk : q ≤ 8) (hall : ∀ t, t < q → ∃ h, h < 8 ∧ hf h = t) (ls : Array Slot) (hl : lv_has ls 2 [(1, .int (nI q)), (0, .ref (ad 0))]), W p l e ({ frames := 1, cells := 0, slots := 0, locals := 22 } : Room) s m ([.ref (ad 0)] : List Value).toArray below meth c s.heap [] 0 0 (MQ below (va_Sr (fun k => k < 9 ∧ ∀ h, h < 8 → ¬ hf h = k) (fun k => .ref (ad (10 + k)))) ([.ref (ad 0)] : List Value).toArray s 0 0 (fun _ => False)) (F0 m 2 ls []) := by
    intro d2
    induction d2 with
    | zero => intro q hd2 hk hall ls hl; exact absurd hd2 (by omega)
    | succ d2 ih2 =>
      intro q hd2 hk hall ls hl
      refine lv_iload_n hx hb dX1_idleSheet_2 rfl (lv_at hl 0 rfl) ?_
      refine lv_bipush (v := 8) hx hb dX1_idleSheet_3 (by decide) ?_
      refine lv_icmp_ge (tgt := 35) hx hb dX1_idleSheet_5 (by decide) (fun c5 => ?_) (fun c5 => ?_)
      · skip
        have h8 : q = 8 := by have := nI_ge_of (a := q) (b := 8) c5 (by omega) (by omega); omega
        refine lv_aload_n hx hb dX1_idleSheet_35 rfl (lv_at hl 1 rfl) ?_
        refine va_get (D := D) (ci := 1) (C := RX1) (T := TX1) (N := 7) hx hb hts hin1 hown hK hP 0 rfl rfl 2 (by decide) (hts (.fieldLink RX1 22 "DutyRota" "sheets" "[LDutyRota$Sheet;") (by decide +kernel)) (fun _ h9 => h9) rfl dX1_idleSheet_36 ?_
        refine lv_bipush (v := 8) hx hb dX1_idleSheet_39 (by decide) ?_
        refine rw_rld hx hb hK hP 2 2 rfl rfl (j := 8) (rfl) (by omega) (by decide) rfl dX1_idleSheet_41 ?_
        exact W.aret (v := .ref (ad (10 + 8))) hx hb hr (Or.inl ⟨_, rfl⟩) (Or.inr ⟨_, rfl⟩) (fun t ht _ => ⟨8, rfl, ⟨by decide, idle8 (fun t ht => hall t (by omega))⟩, ht⟩) (fun _ h => nomatch h) dX1_idleSheet_42
      · skip
        have h8 : q < 8 := nI_lt_of (a := q) (b := 8) c5 (by omega) (by omega)
        refine lv_aload_n hx hb dX1_idleSheet_8 rfl (lv_at hl 1 rfl) ?_
        refine lv_aload_n hx hb dX1_idleSheet_9 rfl (lv_at hl 1 rfl) ?_
        refine va_get (D := D) (ci := 1) (C := RX1) (T := TX1) (N := 7) hx hb hts hin1 hown hK hP 0 rfl rfl 2 (by decide) (hts (.fieldLink RX1 22 "DutyRota" "sheets" "[LDutyRota$Sheet;") (by decide +kernel)) (fun _ h9 => h9) rfl dX1_idleSheet_10 ?_
        refine lv_iload_n hx hb dX1_idleSheet_13 rfl (lv_at hl 0 rfl) ?_
        refine rw_rld hx hb hK hP 2 2 rfl rfl (j := q) (rfl) (by omega) (by decide) rfl dX1_idleSheet_14 ?_
        refine vp_callSi (W.runV (As := [.ref (ad (10 + q))]) (rest := []) ⟨hx, hb, hml, hown, hts⟩ (c_X1_leastHookWith l D ci ad z F hf ft fk fp n mk sz pl q (by omega) hHF) (cwV 1 hts gX1_idleSheet_X1_leastHookWith rfl rfl rfl (by decide +kernel) ⟨Nat.le_of_ble_eq_true rfl, Nat.le_of_ble_eq_true rfl⟩) ⟨WD.fb, (va_recv hK hP (ci := 1) (q0 := 0) rfl rfl), fun U hU hW => ⟨rfl, WD.call hP hD hK hE hS hU hW⟩⟩ rfl rfl hl.1 rfl (lv_room (Nat.le_of_ble_eq_true rfl)) dX1_idleSheet_15 ⟨Nat.le_of_ble_eq_true rfl, Nat.le_of_ble_eq_true rfl⟩) (fun r15 hw15 => ?_)
        refine lv_iconst (v := -1) hx hb dX1_idleSheet_18 (by decide) ?_
        refine lv_icmp_ne (tgt := 29) hx hb dX1_idleSheet_19 (by decide) (fun c19 => ?_) (fun c19 => ?_)
        · skip
          have hy := lh_yes hw15 c19
          refine lv_iinc (v := (nI (q + 1))) (lv' := [(1, .int (nI (q + 1))), (0, .ref (ad 0))]) hx hb dX1_idleSheet_29 hl (k := 0) rfl (nI_1 _) (by decide) rfl (fun ls hl => ?_)
          refine lv_goto (tgt := 2) hx hb dX1_idleSheet_32 (by decide) ?_
          exact ih2 (q + 1) (by omega) (by omega) (lt_s hall hy) ls (lv_sub hl [0, 1] rfl)
        · skip
          refine lv_aload_n hx hb dX1_idleSheet_22 rfl (lv_at hl 1 rfl) ?_
          refine va_get (D := D) (ci := 1) (C := RX1) (T := TX1) (N := 7) hx hb hts hin1 hown hK hP 0 rfl rfl 2 (by decide) (hts (.fieldLink RX1 22 "DutyRota" "sheets" "[LDutyRota$Sheet;") (by decide +kernel)) (fun _ h9 => h9) rfl dX1_idleSheet_23 ?_
          refine lv_iload_n hx hb dX1_idleSheet_26 rfl (lv_at hl 0 rfl) ?_
          refine rw_rld hx hb hK hP 2 2 rfl rfl (j := q) (rfl) (by omega) (by decide) rfl dX1_idleSheet_27 ?_
          exact W.aret (v := .ref (ad (10 + q))) hx hb hr (Or.inl ⟨_, rfl⟩) (Or.inr ⟨_, rfl⟩) (fun t ht _ => ⟨q, rfl, ⟨by omega, lh_no hw15 c19⟩, ht⟩) (fun _ h => nomatch h) dX1_idleSheet_28
  exact loop2 (8 + 1) 0 (by omega) (by omega) (fun t h => absurd h (by omega)) ls (lv_sub hl [0, 1] rfl)
set_option maxHeartbeats 4000000 in
set_option maxRecDepth 100000 in
theorem c_X1_takes (l : Launch) (D : va_G) (ci : Nat → ClassId) (ad : Nat → Nat) (z : Nat) (F : va_W) (hf : Nat → Nat) (ft : Nat → Int64) (fk : Nat → Int32) (fp : Nat → Int64) (n : Nat) (mk : Nat → Int32) (sz : Nat → Nat) (pl : Nat → Nat → Int64) (i : Nat) (v : Int64) (hi : i < 10) (hN : n ≤ 60) : Met l yX1_takes wsX1_takes ({ frames := 1, cells := 0, slots := 0, locals := 22 }) (va_Pc [.ref (ad 0), .ref (ad (10 + i)), .long v] (fun U => WD D ci ad z (wC ci ad hf ft fk fp n mk sz pl ++ F) U)) (vp_Si (fun r => (r = 1 ∧ ¬ noTake (mk i) fk n v) ∨ (r = 0 ∧ noTake (mk i) fk n v))) 0 0 (fun _ => False) := by
  refine Met.ofW (cc := cX1_takes) (maxL := 4) (ret := (some .boolean)) (by decide) rfl ?_
  intro p e s m args below meth c s₁ B hml hv
  obtain ⟨rfl, hP, hD, hK, hE⟩ := hv
  have hx := B.exec
  have hb := B.bytes
  have hr := B.returns
  have hts := atoms_spec (ws := wsX1_takes) B.pre
  have hown : s.vm.findClass RX1 = some m.cls := findClass_of_methodNamed B.named
  have hlocks := B.notSynchronized
  have hS : va_S (LA z) s.heap s.heap [] := va_S.rf
  have hin0 : ∀ w ∈ wsX00, w ∈ wsX1_takes := by decide +kernel
  have hin1 : ∀ w ∈ wsX10, w ∈ wsX1_takes := by decide +kernel
  have hl := lv_entry ([.ref (ad 0), .ref (ad (10 + i)), .long v]) (n := 4) (Nat.le_of_ble_eq_true rfl)
  rw [lg_entry_eq]
  generalize (lg_sl ([.ref (ad 0), .ref (ad (10 + i)), .long v]) ++ List.replicate (4 - (lg_sl ([.ref (ad 0), .ref (ad (10 + i)), .long v])).length) Slot.unset).toArray = ls at hl ⊢
  have hl : lv_has ls 4 [(0, .ref (ad 0)), (1, .ref (ad (10 + i))), (2, .long v)] := hl
  refine lv_aload_n hx hb dX1_takes_0 rfl (lv_at hl 1 rfl) ?_
  refine va_getN (D := D) (ci := 0) (C := RX0) (T := TX0) (N := 3) hx hb hts hin0 hown hK hP (6 + i) (wC_sh hi) rfl 1 (by decide) (hE.nF (by decide +kernel)) (fun _ h9 => h9) rfl dX1_takes_1 ?_
  refine lv_if_eq (tgt := 22) hx hb dX1_takes_4 (by decide) (fun c4 => ?_) (fun c4 => ?_)
  · skip
    refine lv_iconst (v := 1) hx hb dX1_takes_22 (by decide) ?_
    exact W.zret (v := 1) hx hb hr rfl (fun t ht _ => ⟨_, rfl, Or.inl ⟨rfl, fun ⟨_, _, _, h, _⟩ => h c4⟩, ht⟩) (fun _ h => nomatch h) dX1_takes_23
  · skip
    refine lv_aload_n hx hb dX1_takes_7 rfl (lv_at hl 1 rfl) ?_
    refine vp_callSi (toCR (va_runVN (As := []) (rest := []) ⟨hx, hb, hml, hown, hts⟩ (c_X0_isRoster l D ci ad z F hf ft fk fp n mk sz pl i  hi ) ⟨va_cnB 0 hts gX1_takes_X0_isRoster_n71 rfl rfl rfl (hE.nM (by decide +kernel)) (hts (.initialized RX0) (by decide +kernel)) (by decide +kernel) ⟨Nat.le_of_ble_eq_true rfl, Nat.le_of_ble_eq_true rfl⟩, hts (.instanceMethod yX0_isRoster) (by decide +kernel), hts (.selects RX0 yX0_isRoster yX0_isRoster) (by decide +kernel)⟩ ⟨WD.fb, (va_recv hK hP (ci := 0) (q0 := 6 + i) rfl (wC_sh hi)), fun U hU hW => ⟨rfl, WD.call hP hD hK hE hS hU hW⟩⟩ rfl rfl hl.1 rfl (lv_room (Nat.le_of_ble_eq_true rfl)) dX1_takes_8 ⟨Nat.le_of_ble_eq_true rfl, Nat.le_of_ble_eq_true rfl⟩)) (fun r8 hw8 => ?_)
    rcases hw8 with ⟨rfl, h8⟩ | ⟨rfl, h8⟩
    · skip
      refine lv_if_eq (tgt := 22) hx hb dX1_takes_11 (by decide) (fun c11 => absurd c11 (by decide)) (fun c11 => ?_)
      refine lv_aload_n hx hb dX1_takes_14 rfl (lv_at hl 0 rfl) ?_
      refine lv_lload_n hx hb dX1_takes_15 rfl (lv_at hl 2 rfl) ?_
      refine vp_callSi (W.runV (As := [.long v]) (rest := []) ⟨hx, hb, hml, hown, hts⟩ (c_X1_isHired l D ci ad z F hf ft fk fp n mk sz pl v hN) (cwV 1 hts gX1_takes_X1_isHired rfl rfl rfl (by decide +kernel) ⟨Nat.le_of_ble_eq_true rfl, Nat.le_of_ble_eq_true rfl⟩) ⟨WD.fb, (va_recv hK hP (ci := 1) (q0 := 0) rfl rfl), fun U hU hW => ⟨rfl, WD.call hP hD hK hE hS hU hW⟩⟩ rfl rfl hl.1 rfl (lv_room (Nat.le_of_ble_eq_true rfl)) dX1_takes_16 ⟨Nat.le_of_ble_eq_true rfl, Nat.le_of_ble_eq_true rfl⟩) (fun r16 hw16 => ?_)
      rcases hw16 with ⟨rfl, h16⟩ | ⟨rfl, h16⟩
      · skip
        obtain ⟨k, hk, ek⟩ := h16
        refine lv_if_ne (tgt := 24) hx hb dX1_takes_19 (by decide) (fun c19 => ?_) (fun c19 => absurd c19 (by decide))
        refine lv_aload_n hx hb dX1_takes_24 rfl (lv_at hl 0 rfl) ?_
        refine va_get (D := D) (ci := 1) (C := RX1) (T := TX1) (N := 7) hx hb hts hin1 hown hK hP 0 rfl rfl 4 (by decide) (hts (.fieldLink RX1 29 "DutyRota" "kinds" "[I") (by decide +kernel)) (fun _ h9 => h9) rfl dX1_takes_25 ?_
        refine lv_lload_n hx hb dX1_takes_28 rfl (lv_at hl 2 rfl) ?_
        refine lv_l2i hx hb dX1_takes_29 rfl ?_
        refine rw_ild hx hb hK hP 4 0 rfl rfl (j := k) (by rw [ek, lN_i]) (by omega) (by decide) dX1_takes_30 ?_
        refine lv_aload_n hx hb dX1_takes_31 rfl (lv_at hl 1 rfl) ?_
        refine va_getN (D := D) (ci := 0) (C := RX0) (T := TX0) (N := 3) hx hb hts hin0 hown hK hP (6 + i) (wC_sh hi) rfl 1 (by decide) (hE.nF (by decide +kernel)) (fun _ h9 => h9) rfl dX1_takes_32 ?_
        refine lv_iconst (v := 1) hx hb dX1_takes_35 (by decide) ?_
        refine lv_isub hx hb dX1_takes_36 ?_
        refine lv_icmp_ne (tgt := 44) hx hb dX1_takes_37 (by decide) (fun c37 => ?_) (fun c37 => ?_)
        · skip
          refine lv_iconst (v := 0) hx hb dX1_takes_44 (by decide) ?_
          exact W.zret (v := 0) hx hb hr rfl (fun t ht _ => ⟨_, rfl, Or.inr ⟨rfl, k, hk, ek, c4, h8, c37⟩, ht⟩) (fun _ h => nomatch h) dX1_takes_45
        · skip
          refine lv_iconst (v := 1) hx hb dX1_takes_40 (by decide) ?_
          refine lv_goto (tgt := 45) hx hb dX1_takes_41 (by decide) ?_
          exact W.zret (v := 1) hx hb hr rfl (fun t ht _ => ⟨_, rfl, Or.inl ⟨rfl, fun ⟨k', hk', ek', _, _, h⟩ => h (by rw [show k' = k from lN_inj (by omega) (by omega) (ek'.symm.trans ek)]; exact c37)⟩, ht⟩) (fun _ h => nomatch h) dX1_takes_45
      · skip
        refine lv_if_ne (tgt := 24) hx hb dX1_takes_19 (by decide) (fun c19 => absurd c19 (by decide)) (fun c19 => ?_)
        refine lv_iconst (v := 1) hx hb dX1_takes_22 (by decide) ?_
        exact W.zret (v := 1) hx hb hr rfl (fun t ht _ => ⟨_, rfl, Or.inl ⟨rfl, fun ⟨_, hk, e, _⟩ => lN_no hN hk e h16⟩, ht⟩) (fun _ h => nomatch h) dX1_takes_23
    · skip
      refine lv_if_eq (tgt := 22) hx hb dX1_takes_11 (by decide) (fun c11 => ?_) (fun c11 => absurd c11 (by decide))
      refine lv_iconst (v := 1) hx hb dX1_takes_22 (by decide) ?_
      exact W.zret (v := 1) hx hb hr rfl (fun t ht _ => ⟨_, rfl, Or.inl ⟨rfl, fun ⟨_, _, _, _, h, _⟩ => h8 h⟩, ht⟩) (fun _ h => nomatch h) dX1_takes_23
set_option maxHeartbeats 4000000 in
set_option maxRecDepth 100000 in
theorem c_X1_areAlike (l : Launch) (D : va_G) (ci : Nat → ClassId) (ad : Nat → Nat) (z : Nat) (F : va_W) (hf : Nat → Nat) (ft : Nat → Int64) (fk : Nat → Int32) (fp : Nat → Int64) (n : Nat) (mk : Nat → Int32) (sz : Nat → Nat) (pl : Nat → Nat → Int64) (i j : Nat) (hi : i < 10) (hj : j < 10) : Met l yX1_areAlike wsX1_areAlike ({ frames := 2, cells := 0, slots := 0, locals := 40 }) (va_Pc [.ref (ad (10 + i)), .ref (ad (10 + j))] (fun U => WD D ci ad z (wC ci ad hf ft fk fp n mk sz pl ++ F) U)) (vp_Si (fun r => (r = 1 ∧ alike (mk i) (mk j)) ∨ (r = 0 ∧ ¬ alike (mk i) (mk j)))) 0 0 (fun _ => False) := by
  refine Met.ofW (cc := cX1_areAlike) (maxL := 2) (ret := (some .boolean)) (by decide) rfl ?_
  intro p e s m args below meth c s₁ B hml hv
  obtain ⟨rfl, hP, hD, hK, hE⟩ := hv
  have hx := B.exec
  have hb := B.bytes
  have hr := B.returns
  have hts := atoms_spec (ws := wsX1_areAlike) B.pre
  have hown : s.vm.findClass RX1 = some m.cls := findClass_of_methodNamed B.named
  have hlocks := B.notSynchronized
  have hS : va_S (LA z) s.heap s.heap [] := va_S.rf
  have hl := lv_entry ([.ref (ad (10 + i)), .ref (ad (10 + j))]) (n := 2) (Nat.le_of_ble_eq_true rfl)
  rw [lg_entry_eq]
  generalize (lg_sl ([.ref (ad (10 + i)), .ref (ad (10 + j))]) ++ List.replicate (2 - (lg_sl ([.ref (ad (10 + i)), .ref (ad (10 + j))])).length) Slot.unset).toArray = ls at hl ⊢
  have hl : lv_has ls 2 [(0, .ref (ad (10 + i))), (1, .ref (ad (10 + j)))] := hl
  refine lv_aload_n hx hb dX1_areAlike_0 rfl (lv_at hl 0 rfl) ?_
  refine vp_callSi (toCR (va_runVN (As := []) (rest := []) ⟨hx, hb, hml, hown, hts⟩ (c_X0_isRow l D ci ad z F hf ft fk fp n mk sz pl i  hi ) ⟨va_cnB 0 hts gX1_areAlike_X0_isRow_n89 rfl rfl rfl (hE.nM (by decide +kernel)) (hts (.initialized RX0) (by decide +kernel)) (by decide +kernel) ⟨Nat.le_of_ble_eq_true rfl, Nat.le_of_ble_eq_true rfl⟩, hts (.instanceMethod yX0_isRow) (by decide +kernel), hts (.selects RX0 yX0_isRow yX0_isRow) (by decide +kernel)⟩ ⟨WD.fb, (va_recv hK hP (ci := 0) (q0 := 6 + i) rfl (wC_sh hi)), fun U hU hW => ⟨rfl, WD.call hP hD hK hE hS hU hW⟩⟩ rfl rfl hl.1 rfl (lv_room (Nat.le_of_ble_eq_true rfl)) dX1_areAlike_1 ⟨Nat.le_of_ble_eq_true rfl, Nat.le_of_ble_eq_true rfl⟩)) (fun r1 hw1 => ?_)
  rcases hw1 with ⟨rfl, h1⟩ | ⟨rfl, h1⟩
  · skip
    refine lv_if_eq (tgt := 29) hx hb dX1_areAlike_4 (by decide) (fun c4 => absurd c4 (by decide)) (fun c4 => ?_)
    refine lv_aload_n hx hb dX1_areAlike_7 rfl (lv_at hl 1 rfl) ?_
    refine vp_callSi (toCR (va_runVN (As := []) (rest := []) ⟨hx, hb, hml, hown, hts⟩ (c_X0_isRow l D ci ad z F hf ft fk fp n mk sz pl j  hj ) ⟨va_cnB 0 hts gX1_areAlike_X0_isRow_n89 rfl rfl rfl (hE.nM (by decide +kernel)) (hts (.initialized RX0) (by decide +kernel)) (by decide +kernel) ⟨Nat.le_of_ble_eq_true rfl, Nat.le_of_ble_eq_true rfl⟩, hts (.instanceMethod yX0_isRow) (by decide +kernel), hts (.selects RX0 yX0_isRow yX0_isRow) (by decide +kernel)⟩ ⟨WD.fb, (va_recv hK hP (ci := 0) (q0 := 6 + j) rfl (wC_sh hj)), fun U hU hW => ⟨rfl, WD.call hP hD hK hE hS hU hW⟩⟩ rfl rfl hl.1 rfl (lv_room (Nat.le_of_ble_eq_true rfl)) dX1_areAlike_8 ⟨Nat.le_of_ble_eq_true rfl, Nat.le_of_ble_eq_true rfl⟩)) (fun r8 hw8 => ?_)
    rcases hw8 with ⟨rfl, h8⟩ | ⟨rfl, h8⟩
    · skip
      refine lv_if_eq (tgt := 29) hx hb dX1_areAlike_11 (by decide) (fun c11 => absurd c11 (by decide)) (fun c11 => ?_)
      refine lv_aload_n hx hb dX1_areAlike_14 rfl (lv_at hl 0 rfl) ?_
      refine vp_callSi (toCR (va_runVN (As := []) (rest := []) ⟨hx, hb, hml, hown, hts⟩ (c_X0_family l D ci ad z F hf ft fk fp n mk sz pl i  hi ) ⟨va_cnB 0 hts gX1_areAlike_X0_family_n141 rfl rfl rfl (hE.nM (by decide +kernel)) (hts (.initialized RX0) (by decide +kernel)) (by decide +kernel) ⟨Nat.le_of_ble_eq_true rfl, Nat.le_of_ble_eq_true rfl⟩, hts (.instanceMethod yX0_family) (by decide +kernel), hts (.selects RX0 yX0_family yX0_family) (by decide +kernel)⟩ ⟨WD.fb, (va_recv hK hP (ci := 0) (q0 := 6 + i) rfl (wC_sh hi)), fun U hU hW => ⟨rfl, WD.call hP hD hK hE hS hU hW⟩⟩ rfl rfl hl.1 rfl (lv_room (Nat.le_of_ble_eq_true rfl)) dX1_areAlike_15 ⟨Nat.le_of_ble_eq_true rfl, Nat.le_of_ble_eq_true rfl⟩)) (fun r15 hw15 => ?_)
      refine lv_aload_n hx hb dX1_areAlike_18 rfl (lv_at hl 1 rfl) ?_
      refine vp_callSi (toCR (va_runVN (As := []) (rest := [.int r15]) ⟨hx, hb, hml, hown, hts⟩ (c_X0_family l D ci ad z F hf ft fk fp n mk sz pl j  hj ) ⟨va_cnB 0 hts gX1_areAlike_X0_family_n141 rfl rfl rfl (hE.nM (by decide +kernel)) (hts (.initialized RX0) (by decide +kernel)) (by decide +kernel) ⟨Nat.le_of_ble_eq_true rfl, Nat.le_of_ble_eq_true rfl⟩, hts (.instanceMethod yX0_family) (by decide +kernel), hts (.selects RX0 yX0_family yX0_family) (by decide +kernel)⟩ ⟨WD.fb, (va_recv hK hP (ci := 0) (q0 := 6 + j) rfl (wC_sh hj)), fun U hU hW => ⟨rfl, WD.call hP hD hK hE hS hU hW⟩⟩ rfl rfl hl.1 rfl (lv_room (Nat.le_of_ble_eq_true rfl)) dX1_areAlike_19 ⟨Nat.le_of_ble_eq_true rfl, Nat.le_of_ble_eq_true rfl⟩)) (fun r19 hw19 => ?_)
      refine lv_icmp_ne (tgt := 29) hx hb dX1_areAlike_22 (by decide) (fun c22 => ?_) (fun c22 => ?_)
      · skip
        refine lv_iconst (v := 0) hx hb dX1_areAlike_29 (by decide) ?_
        exact W.zret (v := 0) hx hb hr rfl (fun t ht _ => ⟨_, rfl, Or.inr ⟨rfl, fun h => c22 (by rw [hw15, hw19]; exact h.2.2)⟩, ht⟩) (fun _ h => nomatch h) dX1_areAlike_30
      · skip
        refine lv_iconst (v := 1) hx hb dX1_areAlike_25 (by decide) ?_
        refine lv_goto (tgt := 30) hx hb dX1_areAlike_26 (by decide) ?_
        exact W.zret (v := 1) hx hb hr rfl (fun t ht _ => ⟨_, rfl, Or.inl ⟨rfl, h1, h8, by unfold fam; rw [← hw15, ← hw19]; exact c22⟩, ht⟩) (fun _ h => nomatch h) dX1_areAlike_30
    · skip
      refine lv_if_eq (tgt := 29) hx hb dX1_areAlike_11 (by decide) (fun c11 => ?_) (fun c11 => absurd c11 (by decide))
      refine lv_iconst (v := 0) hx hb dX1_areAlike_29 (by decide) ?_
      exact W.zret (v := 0) hx hb hr rfl (fun t ht _ => ⟨_, rfl, Or.inr ⟨rfl, fun h => h8 h.2.1⟩, ht⟩) (fun _ h => nomatch h) dX1_areAlike_30
  · skip
    refine lv_if_eq (tgt := 29) hx hb dX1_areAlike_4 (by decide) (fun c4 => ?_) (fun c4 => absurd c4 (by decide))
    refine lv_iconst (v := 0) hx hb dX1_areAlike_29 (by decide) ?_
    exact W.zret (v := 0) hx hb hr rfl (fun t ht _ => ⟨_, rfl, Or.inr ⟨rfl, fun h => h1 h.1⟩, ht⟩) (fun _ h => nomatch h) dX1_areAlike_30
set_option maxHeartbeats 4000000 in
set_option maxRecDepth 100000 in
theorem c_X1_isForeign (l : Launch) (D : va_G) (ci : Nat → ClassId) (ad : Nat → Nat) (z : Nat) (F : va_W) (hf : Nat → Nat) (ft : Nat → Int64) (fk : Nat → Int32) (fp : Nat → Int64) (n : Nat) (mk : Nat → Int32) (sz : Nat → Nat) (pl : Nat → Nat → Int64) (i : Nat) (x : Int32) (hi : i < 10) : Met l yX1_isForeign wsX1_isForeign ({ frames := 2, cells := 0, slots := 0, locals := 40 }) (va_Pc [.ref (ad (10 + i)), .int x] (fun U => WD D ci ad z (wC ci ad hf ft fk fp n mk sz pl ++ F) U)) (vp_Si (fun r => (r = 1 ∧ (¬ mk i = 6 ∧ ¬ fam (mk i) = x)) ∨ (r = 0 ∧ ¬ (¬ mk i = 6 ∧ ¬ fam (mk i) = x)))) 0 0 (fun _ => False) := by
  refine Met.ofW (cc := cX1_isForeign) (maxL := 2) (ret := (some .boolean)) (by decide) rfl ?_
  intro p e s m args below meth c s₁ B hml hv
  obtain ⟨rfl, hP, hD, hK, hE⟩ := hv
  have hx := B.exec
  have hb := B.bytes
  have hr := B.returns
  have hts := atoms_spec (ws := wsX1_isForeign) B.pre
  have hown : s.vm.findClass RX1 = some m.cls := findClass_of_methodNamed B.named
  have hlocks := B.notSynchronized
  have hS : va_S (LA z) s.heap s.heap [] := va_S.rf
  have hl := lv_entry ([.ref (ad (10 + i)), .int x]) (n := 2) (Nat.le_of_ble_eq_true rfl)
  rw [lg_entry_eq]
  generalize (lg_sl ([.ref (ad (10 + i)), .int x]) ++ List.replicate (2 - (lg_sl ([.ref (ad (10 + i)), .int x])).length) Slot.unset).toArray = ls at hl ⊢
  have hl : lv_has ls 2 [(0, .ref (ad (10 + i))), (1, .int x)] := hl
  refine lv_aload_n hx hb dX1_isForeign_0 rfl (lv_at hl 0 rfl) ?_
  refine vp_callSi (toCR (va_runVN (As := []) (rest := []) ⟨hx, hb, hml, hown, hts⟩ (c_X0_isNothing l D ci ad z F hf ft fk fp n mk sz pl i  hi ) ⟨va_cnB 0 hts gX1_isForeign_X0_isNothing_n67 rfl rfl rfl (hE.nM (by decide +kernel)) (hts (.initialized RX0) (by decide +kernel)) (by decide +kernel) ⟨Nat.le_of_ble_eq_true rfl, Nat.le_of_ble_eq_true rfl⟩, hts (.instanceMethod yX0_isNothing) (by decide +kernel), hts (.selects RX0 yX0_isNothing yX0_isNothing) (by decide +kernel)⟩ ⟨WD.fb, (va_recv hK hP (ci := 0) (q0 := 6 + i) rfl (wC_sh hi)), fun U hU hW => ⟨rfl, WD.call hP hD hK hE hS hU hW⟩⟩ rfl rfl hl.1 rfl (lv_room (Nat.le_of_ble_eq_true rfl)) dX1_isForeign_1 ⟨Nat.le_of_ble_eq_true rfl, Nat.le_of_ble_eq_true rfl⟩)) (fun r1 hw1 => ?_)
  rcases hw1 with ⟨rfl, h1⟩ | ⟨rfl, h1⟩
  · skip
    refine lv_if_ne (tgt := 19) hx hb dX1_isForeign_4 (by decide) (fun c4 => ?_) (fun c4 => absurd c4 (by decide))
    refine lv_iconst (v := 0) hx hb dX1_isForeign_19 (by decide) ?_
    exact W.zret (v := 0) hx hb hr rfl (fun t ht _ => ⟨_, rfl, Or.inr ⟨rfl, fun h => h.1 h1⟩, ht⟩) (fun _ h => nomatch h) dX1_isForeign_20
  · skip
    refine lv_if_ne (tgt := 19) hx hb dX1_isForeign_4 (by decide) (fun c4 => absurd c4 (by decide)) (fun c4 => ?_)
    refine lv_aload_n hx hb dX1_isForeign_7 rfl (lv_at hl 0 rfl) ?_
    refine vp_callSi (toCR (va_runVN (As := []) (rest := []) ⟨hx, hb, hml, hown, hts⟩ (c_X0_family l D ci ad z F hf ft fk fp n mk sz pl i  hi ) ⟨va_cnB 0 hts gX1_isForeign_X0_family_n141 rfl rfl rfl (hE.nM (by decide +kernel)) (hts (.initialized RX0) (by decide +kernel)) (by decide +kernel) ⟨Nat.le_of_ble_eq_true rfl, Nat.le_of_ble_eq_true rfl⟩, hts (.instanceMethod yX0_family) (by decide +kernel), hts (.selects RX0 yX0_family yX0_family) (by decide +kernel)⟩ ⟨WD.fb, (va_recv hK hP (ci := 0) (q0 := 6 + i) rfl (wC_sh hi)), fun U hU hW => ⟨rfl, WD.call hP hD hK hE hS hU hW⟩⟩ rfl rfl hl.1 rfl (lv_room (Nat.le_of_ble_eq_true rfl)) dX1_isForeign_8 ⟨Nat.le_of_ble_eq_true rfl, Nat.le_of_ble_eq_true rfl⟩)) (fun r8 hw8 => ?_)
    refine lv_iload_n hx hb dX1_isForeign_11 rfl (lv_at hl 1 rfl) ?_
    refine lv_icmp_eq (tgt := 19) hx hb dX1_isForeign_12 (by decide) (fun c12 => ?_) (fun c12 => ?_)
    · skip
      refine lv_iconst (v := 0) hx hb dX1_isForeign_19 (by decide) ?_
      exact W.zret (v := 0) hx hb hr rfl (fun t ht _ => ⟨_, rfl, Or.inr ⟨rfl, fun h => h.2 (by unfold fam; rw [← hw8]; exact c12)⟩, ht⟩) (fun _ h => nomatch h) dX1_isForeign_20
    · skip
      refine lv_iconst (v := 1) hx hb dX1_isForeign_15 (by decide) ?_
      refine lv_goto (tgt := 20) hx hb dX1_isForeign_16 (by decide) ?_
      exact W.zret (v := 1) hx hb hr rfl (fun t ht _ => ⟨_, rfl, Or.inl ⟨rfl, h1, fun h => c12 (by rw [hw8]; exact h)⟩, ht⟩) (fun _ h => nomatch h) dX1_isForeign_20
set_option maxHeartbeats 4000000 in
set_option maxRecDepth 100000 in
theorem c_X1_placesWith (l : Launch) (D : va_G) (ci : Nat → ClassId) (ad : Nat → Nat) (z : Nat) (F : va_W) (hf : Nat → Nat) (ft : Nat → Int64) (fk : Nat → Int32) (fp : Nat → Int64) (n : Nat) (mk : Nat → Int32) (sz : Nat → Nat) (pl : Nat → Nat → Int64) (i : Nat) (x : Int32) (hi : i < 10) (hsz : sz i ≤ 40) (h9s : sz 9 = 0) : Met l yX1_placesWith wsX1_placesWith ({ frames := 0, cells := 0, slots := 0, locals := 0 }) (va_Pc [.ref (ad (10 + i)), .int x] (fun U => WD D ci ad z (wC ci ad hf ft fk fp n mk sz pl ++ F) U)) (vp_Si (fun r => r = cntW (pl i) x.toInt64 (sz i))) 0 0 (fun _ => False) := by
  refine Met.ofW (cc := cX1_placesWith) (maxL := 4) (ret := (some .int)) (by decide) rfl ?_
  intro p e s m args below meth c s₁ B hml hv
  obtain ⟨rfl, hP, hD, hK, hE⟩ := hv
  have hx := B.exec
  have hb := B.bytes
  have hr := B.returns
  have hts := atoms_spec (ws := wsX1_placesWith) B.pre
  have hown : s.vm.findClass RX1 = some m.cls := findClass_of_methodNamed B.named
  have hlocks := B.notSynchronized
  have hS : va_S (LA z) s.heap s.heap [] := va_S.rf
  have hin0 : ∀ w ∈ wsX00, w ∈ wsX1_placesWith := by decide +kernel
  have hl := lv_entry ([.ref (ad (10 + i)), .int x]) (n := 4) (Nat.le_of_ble_eq_true rfl)
  rw [lg_entry_eq]
  generalize (lg_sl ([.ref (ad (10 + i)), .int x]) ++ List.replicate (4 - (lg_sl ([.ref (ad (10 + i)), .int x])).length) Slot.unset).toArray = ls at hl ⊢
  have hl : lv_has ls 4 [(0, .ref (ad (10 + i))), (1, .int x)] := hl
  refine lv_iconst (v := 0) hx hb dX1_placesWith_0 (by decide) ?_
  refine lv_istore_n (lv' := [(2, .int 0), (0, .ref (ad (10 + i))), (1, .int x)]) hx hb dX1_placesWith_1 rfl hl (by decide) rfl (fun ls hl => ?_)
  refine lv_iconst (v := 0) hx hb dX1_placesWith_2 (by decide) ?_
  refine lv_istore_n (lv' := [(3, .int 0), (2, .int 0), (0, .ref (ad (10 + i))), (1, .int x)]) hx hb dX1_placesWith_3 rfl hl (by decide) rfl (fun ls hl => ?_)
  have loop4 : ∀ (d4 : Nat) (k : Nat) (c1 : Int32) (hd4 : sz i + 1 ≤ k + d4) (hk : k ≤ sz i) (hc : c1 = cntW (pl i) x.toInt64 k) (ls : Array Slot) (hl : lv_has ls 4 [(3, .int (nI k)), (2, .int c1), (0, .ref (ad (10 + i))), (1, .int x)]), W p l e ({ frames := 0, cells := 0, slots := 0, locals := 0 } : Room) s m ([.ref (ad (10 + i)), .int x] : List Value).toArray below meth c s.heap [] 0 0 (MQ below (vp_Si (fun r => r = cntW (pl i) x.toInt64 (sz i))) ([.ref (ad (10 + i)), .int x] : List Value).toArray s 0 0 (fun _ => False)) (F0 m 4 ls []) := by
    intro d4
    induction d4 with
    | zero => intro k c1 hd4 hk hc ls hl; exact absurd hd4 (by omega)
    | succ d4 ih4 =>
      intro k c1 hd4 hk hc ls hl
      refine lv_iload_n hx hb dX1_placesWith_4 rfl (lv_at hl 0 rfl) ?_
      refine lv_aload_n hx hb dX1_placesWith_5 rfl (lv_at hl 2 rfl) ?_
      refine va_getN (D := D) (ci := 0) (C := RX0) (T := TX0) (N := 3) hx hb hts hin0 hown hK hP (6 + i) (wC_sh hi) rfl 2 (by decide) (hE.nF (by decide +kernel)) (fun _ h9 => h9) rfl dX1_placesWith_6 ?_
      refine lv_icmp_ge (tgt := 33) hx hb dX1_placesWith_9 (by decide) (fun c9 => ?_) (fun c9 => ?_)
      · skip
        have hk8 : k = sz i := by have := nI_ge_of c9 (by omega) (by omega); omega
        refine lv_iload_n hx hb dX1_placesWith_33 rfl (lv_at hl 1 rfl) ?_
        exact W.iret (v := c1) hx hb hr (fun t ht _ => ⟨_, rfl, by rw [hc, hk8], ht⟩) (fun _ h => nomatch h) dX1_placesWith_34
      · skip
        have hk8 : k < sz i := nI_lt_of c9 (by omega) (by omega)
        have h9 : i < 9 := lt9 h9s hi hk8
        refine lv_aload_n hx hb dX1_placesWith_12 rfl (lv_at hl 2 rfl) ?_
        refine va_getN (D := D) (ci := 0) (C := RX0) (T := TX0) (N := 3) hx hb hts hin0 hown hK hP (6 + i) (wC_sh hi) rfl 0 (by decide) (hE.nF (by decide +kernel)) (fun _ h9 => h9) rfl dX1_placesWith_13 ?_
        refine lv_iload_n hx hb dX1_placesWith_16 rfl (lv_at hl 0 rfl) ?_
        refine rw_lld hx hb hK hP (16 + i) 1 (wC_pl h9) rfl (j := k) (rfl) (by omega) (by decide) dX1_placesWith_17 ?_
        refine lv_iload_n hx hb dX1_placesWith_18 rfl (lv_at hl 3 rfl) ?_
        refine lv_i2l hx hb dX1_placesWith_19 rfl ?_
        refine lv_lcmp3 hx hb dX1_placesWith_20 (fun x_1 ex_1 => ?_)
        refine lv_if_ne (tgt := 27) hx hb dX1_placesWith_21 (by decide) (fun c21 => ?_) (fun c21 => ?_)
        · skip
          refine lv_iinc (v := (nI (k + 1))) (lv' := [(3, .int (nI (k + 1))), (2, .int c1), (0, .ref (ad (10 + i))), (1, .int x)]) hx hb dX1_placesWith_27 hl (k := 0) rfl (nI_1 _) (by decide) rfl (fun ls hl => ?_)
          refine lv_goto (tgt := 4) hx hb dX1_placesWith_30 (by decide) ?_
          exact ih4 (k + 1) c1 (by omega) (by omega) (by show _ = cntW (pl i) x.toInt64 k + _; rw [if_neg (lc_ne ex_1 c21), Int32.add_zero]; exact hc) ls (lv_sub hl [0, 1, 2, 3] rfl)
        · skip
          refine lv_iinc (v := (c1 + 1)) (lv' := [(2, .int (c1 + 1)), (3, .int (nI k)), (0, .ref (ad (10 + i))), (1, .int x)]) hx hb dX1_placesWith_24 hl (k := 1) rfl (rfl) (by decide) rfl (fun ls hl => ?_)
          refine lv_iinc (v := (nI (k + 1))) (lv' := [(3, .int (nI (k + 1))), (2, .int (c1 + 1)), (0, .ref (ad (10 + i))), (1, .int x)]) hx hb dX1_placesWith_27 hl (k := 1) rfl (nI_1 _) (by decide) rfl (fun ls hl => ?_)
          refine lv_goto (tgt := 4) hx hb dX1_placesWith_30 (by decide) ?_
          exact ih4 (k + 1) (c1 + 1) (by omega) (by omega) (by show _ = cntW (pl i) x.toInt64 k + _; rw [if_pos (lc_eq ex_1 c21), hc]) ls (lv_sub hl [0, 1, 2, 3] rfl)
  exact loop4 (sz i + 1) 0 0 (by omega) (by omega) (rfl) ls (lv_sub hl [0, 1, 2, 3] rfl)
set_option maxHeartbeats 4000000 in
set_option maxRecDepth 100000 in
theorem c_X1_placesOnWall (l : Launch) (D : va_G) (ci : Nat → ClassId) (ad : Nat → Nat) (z : Nat) (F : va_W) (hf : Nat → Nat) (ft : Nat → Int64) (fk : Nat → Int32) (fp : Nat → Int64) (n : Nat) (mk : Nat → Int32) (sz : Nat → Nat) (pl : Nat → Nat → Int64) (x : Int32) (hHF : ∀ h, h < 8 → hf h < 10) (hSZ : ∀ i, i < 10 → sz i ≤ 40) (h9s : sz 9 = 0) : Met l yX1_placesOnWall wsX1_placesOnWall ({ frames := 1, cells := 0, slots := 0, locals := 23 }) (va_Pc [.ref (ad 0), .int x] (fun U => WD D ci ad z (wC ci ad hf ft fk fp n mk sz pl ++ F) U)) (vp_Si (fun r => r = wallN hf mk sz pl x.toInt64 8)) 0 0 (fun _ => False) := by
  refine Met.ofW (cc := cX1_placesOnWall) (maxL := 5) (ret := (some .int)) (by decide) rfl ?_
  intro p e s m args below meth c s₁ B hml hv
  obtain ⟨rfl, hP, hD, hK, hE⟩ := hv
  have hx := B.exec
  have hb := B.bytes
  have hr := B.returns
  have hts := atoms_spec (ws := wsX1_placesOnWall) B.pre
  have hown : s.vm.findClass RX1 = some m.cls := findClass_of_methodNamed B.named
  have hlocks := B.notSynchronized
  have hS : va_S (LA z) s.heap s.heap [] := va_S.rf
  have hin1 : ∀ w ∈ wsX10, w ∈ wsX1_placesOnWall := by decide +kernel
  have hl := lv_entry ([.ref (ad 0), .int x]) (n := 5) (Nat.le_of_ble_eq_true rfl)
  rw [lg_entry_eq]
  generalize (lg_sl ([.ref (ad 0), .int x]) ++ List.replicate (5 - (lg_sl ([.ref (ad 0), .int x])).length) Slot.unset).toArray = ls at hl ⊢
  have hl : lv_has ls 5 [(0, .ref (ad 0)), (1, .int x)] := hl
  refine lv_iconst (v := 0) hx hb dX1_placesOnWall_0 (by decide) ?_
  refine lv_istore_n (lv' := [(2, .int 0), (0, .ref (ad 0)), (1, .int x)]) hx hb dX1_placesOnWall_1 rfl hl (by decide) rfl (fun ls hl => ?_)
  refine lv_iconst (v := 0) hx hb dX1_placesOnWall_2 (by decide) ?_
  refine lv_istore_n (lv' := [(3, .int 0), (2, .int 0), (0, .ref (ad 0)), (1, .int x)]) hx hb dX1_placesOnWall_3 rfl hl (by decide) rfl (fun ls hl => ?_)
  have loop4 : ∀ (d4 : Nat) (k : Nat) (c1 : Int32) (hd4 : 8 + 1 ≤ k + d4) (hk : k ≤ 8) (hc : c1 = wallN hf mk sz pl x.toInt64 k) (ls : Array Slot) (hl : lv_has ls 5 [(3, .int (nI k)), (2, .int c1), (0, .ref (ad 0)), (1, .int x)]), W p l e ({ frames := 1, cells := 0, slots := 0, locals := 23 } : Room) s m ([.ref (ad 0), .int x] : List Value).toArray below meth c s.heap [] 0 0 (MQ below (vp_Si (fun r => r = wallN hf mk sz pl x.toInt64 8)) ([.ref (ad 0), .int x] : List Value).toArray s 0 0 (fun _ => False)) (F0 m 4 ls []) := by
    intro d4
    induction d4 with
    | zero => intro k c1 hd4 hk hc ls hl; exact absurd hd4 (by omega)
    | succ d4 ih4 =>
      intro k c1 hd4 hk hc ls hl
      refine lv_iload_n hx hb dX1_placesOnWall_4 rfl (lv_at hl 0 rfl) ?_
      refine lv_bipush (v := 8) hx hb dX1_placesOnWall_5 (by decide) ?_
      refine lv_icmp_ge (tgt := 51) hx hb dX1_placesOnWall_7 (by decide) (fun c7 => ?_) (fun c7 => ?_)
      · skip
        have h8 : k = 8 := by have := nI_ge_of (a := k) (b := 8) c7 (by omega) (by omega); omega
        refine lv_iload_n hx hb dX1_placesOnWall_51 rfl (lv_at hl 1 rfl) ?_
        exact W.iret (v := c1) hx hb hr (fun t ht _ => ⟨_, rfl, by rw [hc, h8], ht⟩) (fun _ h => nomatch h) dX1_placesOnWall_52
      · skip
        have h8 : k < 8 := nI_lt_of (a := k) (b := 8) c7 (by omega) (by omega)
        refine lv_aload_n hx hb dX1_placesOnWall_10 rfl (lv_at hl 2 rfl) ?_
        refine va_get (D := D) (ci := 1) (C := RX1) (T := TX1) (N := 7) hx hb hts hin1 hown hK hP 0 rfl rfl 1 (by decide) (hts (.fieldLink RX1 18 "DutyRota" "hooks" "[LDutyRota$Sheet;") (by decide +kernel)) (fun _ h9 => h9) rfl dX1_placesOnWall_11 ?_
        refine lv_iload_n hx hb dX1_placesOnWall_14 rfl (lv_at hl 0 rfl) ?_
        refine rw_rld hx hb hK hP 1 2 rfl rfl (j := k) (rfl) (by omega) (by decide) rfl dX1_placesOnWall_15 ?_
        refine lv_astore (lv' := [(4, .ref (ad (10 + (hf k)))), (3, .int (nI k)), (2, .int c1), (0, .ref (ad 0)), (1, .int x)]) hx hb dX1_placesOnWall_16 hl (by decide) rfl (fun ls hl => ?_)
        refine lv_aload hx hb dX1_placesOnWall_18 (lv_at hl 0 rfl) ?_
        refine vp_callSi (toCR (va_runVN (As := []) (rest := []) ⟨hx, hb, hml, hown, hts⟩ (c_X0_isRoster l D ci ad z F hf ft fk fp n mk sz pl (hf k)  (hHF k (by omega)) ) ⟨va_cnB 0 hts gX1_placesOnWall_X0_isRoster_n71 rfl rfl rfl (hE.nM (by decide +kernel)) (hts (.initialized RX0) (by decide +kernel)) (by decide +kernel) ⟨Nat.le_of_ble_eq_true rfl, Nat.le_of_ble_eq_true rfl⟩, hts (.instanceMethod yX0_isRoster) (by decide +kernel), hts (.selects RX0 yX0_isRoster yX0_isRoster) (by decide +kernel)⟩ ⟨WD.fb, (va_recv hK hP (ci := 0) (q0 := 6 + (hf k)) rfl (wC_sh (hHF k (by omega)))), fun U hU hW => ⟨rfl, WD.call hP hD hK hE hS hU hW⟩⟩ rfl rfl hl.1 rfl (lv_room (Nat.le_of_ble_eq_true rfl)) dX1_placesOnWall_20 ⟨Nat.le_of_ble_eq_true rfl, Nat.le_of_ble_eq_true rfl⟩)) (fun r20 hw20 => ?_)
        rcases hw20 with ⟨rfl, hro⟩ | ⟨rfl, hro⟩
        · skip
          refine lv_if_eq (tgt := 45) hx hb dX1_placesOnWall_23 (by decide) (fun c23 => absurd c23 (by decide)) (fun c23 => ?_)
          refine lv_aload_n hx hb dX1_placesOnWall_26 rfl (lv_at hl 3 rfl) ?_
          refine lv_aload hx hb dX1_placesOnWall_27 (lv_at hl 0 rfl) ?_
          refine vp_callSi (W.runV (As := [.ref (ad (10 + (hf k)))]) (rest := []) ⟨hx, hb, hml, hown, hts⟩ (c_X1_leastHookWith l D ci ad z F hf ft fk fp n mk sz pl (hf k) (hHF k (by omega)) hHF) (cwV 1 hts gX1_placesOnWall_X1_leastHookWith rfl rfl rfl (by decide +kernel) ⟨Nat.le_of_ble_eq_true rfl, Nat.le_of_ble_eq_true rfl⟩) ⟨WD.fb, (va_recv hK hP (ci := 1) (q0 := 0) rfl rfl), fun U hU hW => ⟨rfl, WD.call hP hD hK hE hS hU hW⟩⟩ rfl rfl hl.1 rfl (lv_room (Nat.le_of_ble_eq_true rfl)) dX1_placesOnWall_29 ⟨Nat.le_of_ble_eq_true rfl, Nat.le_of_ble_eq_true rfl⟩) (fun r29 hw29 => ?_)
          refine lv_iload_n hx hb dX1_placesOnWall_32 rfl (lv_at hl 1 rfl) ?_
          refine lv_icmp_ne (tgt := 45) hx hb dX1_placesOnWall_33 (by decide) (fun c33 => ?_) (fun c33 => ?_)
          · skip
            refine lv_iinc (v := (nI (k + 1))) (lv' := [(3, .int (nI (k + 1))), (4, .ref (ad (10 + (hf k)))), (2, .int c1), (0, .ref (ad 0)), (1, .int x)]) hx hb dX1_placesOnWall_45 hl (k := 1) rfl (nI_1 _) (by decide) rfl (fun ls hl => ?_)
            refine lv_goto (tgt := 4) hx hb dX1_placesOnWall_48 (by decide) ?_
            exact ih4 (k + 1) c1 (by omega) (by omega) (by rw [wall_no (fun h => lh_nat h8 hw29 c33 h.2)]; exact hc) ls (lv_sub hl [0, 2, 3, 4] rfl)
          · skip
            refine lv_iload_n hx hb dX1_placesOnWall_36 rfl (lv_at hl 2 rfl) ?_
            refine lv_aload hx hb dX1_placesOnWall_37 (lv_at hl 0 rfl) ?_
            refine lv_iload_n hx hb dX1_placesOnWall_39 rfl (lv_at hl 4 rfl) ?_
            refine vp_callSi (W.runS (As := [.ref (ad (10 + (hf k))), .int x]) (rest := [.int c1]) ⟨hx, hb, hml, hown, hts⟩ (c_X1_placesWith l D ci ad z F hf ft fk fp n mk sz pl (hf k) x (hHF k (by omega)) (hSZ _ (hHF k h8)) h9s) (va_cwS 2 hts gX1_placesOnWall_X1_placesWith rfl rfl rfl (by decide +kernel) ⟨Nat.le_of_ble_eq_true rfl, Nat.le_of_ble_eq_true rfl⟩) ⟨WD.fb, fun U hU hW => ⟨rfl, WD.call hP hD hK hE hS hU hW⟩⟩ rfl rfl hl.1 rfl (lv_room (Nat.le_of_ble_eq_true rfl)) dX1_placesOnWall_40 ⟨Nat.le_of_ble_eq_true rfl, Nat.le_of_ble_eq_true rfl⟩) (fun r40 hw40 => ?_)
            refine lv_iadd hx hb dX1_placesOnWall_43 ?_
            refine lv_istore_n (lv' := [(2, .int (c1 + r40)), (4, .ref (ad (10 + (hf k)))), (3, .int (nI k)), (0, .ref (ad 0)), (1, .int x)]) hx hb dX1_placesOnWall_44 rfl hl (by decide) rfl (fun ls hl => ?_)
            refine lv_iinc (v := (nI (k + 1))) (lv' := [(3, .int (nI (k + 1))), (2, .int (c1 + r40)), (4, .ref (ad (10 + (hf k)))), (0, .ref (ad 0)), (1, .int x)]) hx hb dX1_placesOnWall_45 hl (k := 2) rfl (nI_1 _) (by decide) rfl (fun ls hl => ?_)
            refine lv_goto (tgt := 4) hx hb dX1_placesOnWall_48 (by decide) ?_
            exact ih4 (k + 1) (c1 + r40) (by omega) (by omega) (by rw [wall_yes ⟨hro, lh_at h8 hw29 c33⟩, hc, hw40]) ls (lv_sub hl [0, 1, 3, 4] rfl)
        · skip
          refine lv_if_eq (tgt := 45) hx hb dX1_placesOnWall_23 (by decide) (fun c23 => ?_) (fun c23 => absurd c23 (by decide))
          refine lv_iinc (v := (nI (k + 1))) (lv' := [(3, .int (nI (k + 1))), (4, .ref (ad (10 + (hf k)))), (2, .int c1), (0, .ref (ad 0)), (1, .int x)]) hx hb dX1_placesOnWall_45 hl (k := 1) rfl (nI_1 _) (by decide) rfl (fun ls hl => ?_)
          refine lv_goto (tgt := 4) hx hb dX1_placesOnWall_48 (by decide) ?_
          exact ih4 (k + 1) c1 (by omega) (by omega) (by rw [wall_no (fun h => hro h.1)]; exact hc) ls (lv_sub hl [0, 2, 3, 4] rfl)
  exact loop4 (8 + 1) 0 0 (by omega) (by omega) (rfl) ls (lv_sub hl [0, 1, 2, 3] rfl)
