set_option maxHeartbeats 4000000 in
set_option maxRecDepth 100000 in
theorem c_X0_isNothing (l : Launch) (D : va_G) (ci : Nat → ClassId) (ad : Nat → Nat) (z : Nat) (F : va_W) (hf : Nat → Nat) (ft : Nat → Int64) (fk : Nat → Int32) (fp : Nat → Int64) (n : Nat) (mk : Nat → Int32) (sz : Nat → Nat) (pl : Nat → Nat → Int64) (i : Nat) (hi : i < 10) : Met l yX0_isNothing wsX0_isNothing ({ frames := 0, cells := 0, slots := 0, locals := 0 }) (va_Pc [.ref (ad (10 + i))] (fun U => WD D ci ad z (wC ci ad hf ft fk fp n mk sz pl ++ F) U)) (vp_Si (fun r => (r = 1 ∧ mk i = 6) ∨ (r = 0 ∧ ¬ mk i = 6))) 0 0 (fun _ => False) := by
  refine Met.ofW (cc := cX0_isNothing) (maxL := 1) (ret := (some .boolean)) (by decide) rfl ?_
  intro p e s m args below meth c s₁ B hml hv
  obtain ⟨rfl, hP, hD, hK, hE⟩ := hv
  have hx := B.exec
  have hb := B.bytes
  have hr := B.returns
  have hts := atoms_spec (ws := wsX0_isNothing) B.pre
  have hown : s.vm.findClass RX0 = some m.cls := findClass_of_methodNamed B.named
  have hlocks := B.notSynchronized
  have hS : va_S (LA z) s.heap s.heap [] := va_S.rf
  have hin0 : ∀ w ∈ wsX00, w ∈ wsX0_isNothing := by decide +kernel
  have hl := lv_entry ([.ref (ad (10 + i))]) (n := 1) (Nat.le_of_ble_eq_true rfl)
  rw [lg_entry_eq]
  generalize (lg_sl ([.ref (ad (10 + i))]) ++ List.replicate (1 - (lg_sl ([.ref (ad (10 + i))])).length) Slot.unset).toArray = ls at hl ⊢
  have hl : lv_has ls 1 [(0, .ref (ad (10 + i)))] := hl
  refine lv_aload_n hx hb dX0_isNothing_0 rfl (lv_at hl 0 rfl) ?_
  refine va_get (D := D) (ci := 0) (C := RX0) (T := TX0) (N := 3) hx hb hts hin0 hown hK hP (6 + i) (wC_sh hi) rfl 1 (by decide) (hts (.fieldLink RX0 15 "DutyRota$Sheet" "make" "I") (by decide +kernel)) (fun _ h9 => h9) rfl dX0_isNothing_1 ?_
  refine lv_bipush (v := 6) hx hb dX0_isNothing_4 (by decide) ?_
  refine lv_icmp_ne (tgt := 13) hx hb dX0_isNothing_6 (by decide) (fun c6 => ?_) (fun c6 => ?_)
  · skip
    refine lv_iconst (v := 0) hx hb dX0_isNothing_13 (by decide) ?_
    exact W.zret (v := 0) hx hb hr rfl (fun t ht _ => ⟨_, rfl, Or.inr ⟨rfl, c6⟩, ht⟩) (fun _ h => nomatch h) dX0_isNothing_14
  · skip
    refine lv_iconst (v := 1) hx hb dX0_isNothing_9 (by decide) ?_
    refine lv_goto (tgt := 14) hx hb dX0_isNothing_10 (by decide) ?_
    exact W.zret (v := 1) hx hb hr rfl (fun t ht _ => ⟨_, rfl, Or.inl ⟨rfl, c6⟩, ht⟩) (fun _ h => nomatch h) dX0_isNothing_14
set_option maxHeartbeats 4000000 in
set_option maxRecDepth 100000 in
theorem c_X0_isRow (l : Launch) (D : va_G) (ci : Nat → ClassId) (ad : Nat → Nat) (z : Nat) (F : va_W) (hf : Nat → Nat) (ft : Nat → Int64) (fk : Nat → Int32) (fp : Nat → Int64) (n : Nat) (mk : Nat → Int32) (sz : Nat → Nat) (pl : Nat → Nat → Int64) (i : Nat) (hi : i < 10) : Met l yX0_isRow wsX0_isRow ({ frames := 0, cells := 0, slots := 0, locals := 0 }) (va_Pc [.ref (ad (10 + i))] (fun U => WD D ci ad z (wC ci ad hf ft fk fp n mk sz pl ++ F) U)) (vp_Si (fun r => (r = 1 ∧ mk i ≤ 4) ∨ (r = 0 ∧ ¬ mk i ≤ 4))) 0 0 (fun _ => False) := by
  refine Met.ofW (cc := cX0_isRow) (maxL := 1) (ret := (some .boolean)) (by decide) rfl ?_
  intro p e s m args below meth c s₁ B hml hv
  obtain ⟨rfl, hP, hD, hK, hE⟩ := hv
  have hx := B.exec
  have hb := B.bytes
  have hr := B.returns
  have hts := atoms_spec (ws := wsX0_isRow) B.pre
  have hown : s.vm.findClass RX0 = some m.cls := findClass_of_methodNamed B.named
  have hlocks := B.notSynchronized
  have hS : va_S (LA z) s.heap s.heap [] := va_S.rf
  have hin0 : ∀ w ∈ wsX00, w ∈ wsX0_isRow := by decide +kernel
  have hl := lv_entry ([.ref (ad (10 + i))]) (n := 1) (Nat.le_of_ble_eq_true rfl)
  rw [lg_entry_eq]
  generalize (lg_sl ([.ref (ad (10 + i))]) ++ List.replicate (1 - (lg_sl ([.ref (ad (10 + i))])).length) Slot.unset).toArray = ls at hl ⊢
  have hl : lv_has ls 1 [(0, .ref (ad (10 + i)))] := hl
  refine lv_aload_n hx hb dX0_isRow_0 rfl (lv_at hl 0 rfl) ?_
  refine va_get (D := D) (ci := 0) (C := RX0) (T := TX0) (N := 3) hx hb hts hin0 hown hK hP (6 + i) (wC_sh hi) rfl 1 (by decide) (hts (.fieldLink RX0 15 "DutyRota$Sheet" "make" "I") (by decide +kernel)) (fun _ h9 => h9) rfl dX0_isRow_1 ?_
  refine lv_iconst (v := 4) hx hb dX0_isRow_4 (by decide) ?_
  refine lv_icmp_gt (tgt := 12) hx hb dX0_isRow_5 (by decide) (fun c5 => ?_) (fun c5 => ?_)
  · skip
    refine lv_iconst (v := 0) hx hb dX0_isRow_12 (by decide) ?_
    exact W.zret (v := 0) hx hb hr rfl (fun t ht _ => ⟨_, rfl, Or.inr ⟨rfl, Int32.not_le.mpr c5⟩, ht⟩) (fun _ h => nomatch h) dX0_isRow_13
  · skip
    refine lv_iconst (v := 1) hx hb dX0_isRow_8 (by decide) ?_
    refine lv_goto (tgt := 13) hx hb dX0_isRow_9 (by decide) ?_
    exact W.zret (v := 1) hx hb hr rfl (fun t ht _ => ⟨_, rfl, Or.inl ⟨rfl, Int32.not_lt.mp c5⟩, ht⟩) (fun _ h => nomatch h) dX0_isRow_13
set_option maxHeartbeats 4000000 in
set_option maxRecDepth 100000 in
theorem c_X0_isRoster (l : Launch) (D : va_G) (ci : Nat → ClassId) (ad : Nat → Nat) (z : Nat) (F : va_W) (hf : Nat → Nat) (ft : Nat → Int64) (fk : Nat → Int32) (fp : Nat → Int64) (n : Nat) (mk : Nat → Int32) (sz : Nat → Nat) (pl : Nat → Nat → Int64) (i : Nat) (hi : i < 10) : Met l yX0_isRoster wsX0_isRoster ({ frames := 0, cells := 0, slots := 0, locals := 0 }) (va_Pc [.ref (ad (10 + i))] (fun U => WD D ci ad z (wC ci ad hf ft fk fp n mk sz pl ++ F) U)) (vp_Si (fun r => (r = 1 ∧ mk i ≤ 2) ∨ (r = 0 ∧ ¬ mk i ≤ 2))) 0 0 (fun _ => False) := by
  refine Met.ofW (cc := cX0_isRoster) (maxL := 1) (ret := (some .boolean)) (by decide) rfl ?_
  intro p e s m args below meth c s₁ B hml hv
  obtain ⟨rfl, hP, hD, hK, hE⟩ := hv
  have hx := B.exec
  have hb := B.bytes
  have hr := B.returns
  have hts := atoms_spec (ws := wsX0_isRoster) B.pre
  have hown : s.vm.findClass RX0 = some m.cls := findClass_of_methodNamed B.named
  have hlocks := B.notSynchronized
  have hS : va_S (LA z) s.heap s.heap [] := va_S.rf
  have hin0 : ∀ w ∈ wsX00, w ∈ wsX0_isRoster := by decide +kernel
  have hl := lv_entry ([.ref (ad (10 + i))]) (n := 1) (Nat.le_of_ble_eq_true rfl)
  rw [lg_entry_eq]
  generalize (lg_sl ([.ref (ad (10 + i))]) ++ List.replicate (1 - (lg_sl ([.ref (ad (10 + i))])).length) Slot.unset).toArray = ls at hl ⊢
  have hl : lv_has ls 1 [(0, .ref (ad (10 + i)))] := hl
  refine lv_aload_n hx hb dX0_isRoster_0 rfl (lv_at hl 0 rfl) ?_
  refine va_get (D := D) (ci := 0) (C := RX0) (T := TX0) (N := 3) hx hb hts hin0 hown hK hP (6 + i) (wC_sh hi) rfl 1 (by decide) (hts (.fieldLink RX0 15 "DutyRota$Sheet" "make" "I") (by decide +kernel)) (fun _ h9 => h9) rfl dX0_isRoster_1 ?_
  refine lv_iconst (v := 2) hx hb dX0_isRoster_4 (by decide) ?_
  refine lv_icmp_gt (tgt := 12) hx hb dX0_isRoster_5 (by decide) (fun c5 => ?_) (fun c5 => ?_)
  · skip
    refine lv_iconst (v := 0) hx hb dX0_isRoster_12 (by decide) ?_
    exact W.zret (v := 0) hx hb hr rfl (fun t ht _ => ⟨_, rfl, Or.inr ⟨rfl, Int32.not_le.mpr c5⟩, ht⟩) (fun _ h => nomatch h) dX0_isRoster_13
  · skip
    refine lv_iconst (v := 1) hx hb dX0_isRoster_8 (by decide) ?_
    refine lv_goto (tgt := 13) hx hb dX0_isRoster_9 (by decide) ?_
    exact W.zret (v := 1) hx hb hr rfl (fun t ht _ => ⟨_, rfl, Or.inl ⟨rfl, Int32.not_lt.mp c5⟩, ht⟩) (fun _ h => nomatch h) dX0_isRoster_13
set_option maxHeartbeats 4000000 in
set_option maxRecDepth 100000 in
theorem c_X0_family (l : Launch) (D : va_G) (ci : Nat → ClassId) (ad : Nat → Nat) (z : Nat) (F : va_W) (hf : Nat → Nat) (ft : Nat → Int64) (fk : Nat → Int32) (fp : Nat → Int64) (n : Nat) (mk : Nat → Int32) (sz : Nat → Nat) (pl : Nat → Nat → Int64) (i : Nat) (hi : i < 10) : Met l yX0_family wsX0_family ({ frames := 1, cells := 0, slots := 0, locals := 20 }) (va_Pc [.ref (ad (10 + i))] (fun U => WD D ci ad z (wC ci ad hf ft fk fp n mk sz pl ++ F) U)) (vp_Si (fun r => r = (if mk i ≤ 2 then 0 else mk i))) 0 0 (fun _ => False) := by
  refine Met.ofW (cc := cX0_family) (maxL := 1) (ret := (some .int)) (by decide) rfl ?_
  intro p e s m args below meth c s₁ B hml hv
  obtain ⟨rfl, hP, hD, hK, hE⟩ := hv
  have hx := B.exec
  have hb := B.bytes
  have hr := B.returns
  have hts := atoms_spec (ws := wsX0_family) B.pre
  have hown : s.vm.findClass RX0 = some m.cls := findClass_of_methodNamed B.named
  have hlocks := B.notSynchronized
  have hS : va_S (LA z) s.heap s.heap [] := va_S.rf
  have hin0 : ∀ w ∈ wsX00, w ∈ wsX0_family := by decide +kernel
  have hl := lv_entry ([.ref (ad (10 + i))]) (n := 1) (Nat.le_of_ble_eq_true rfl)
  rw [lg_entry_eq]
  generalize (lg_sl ([.ref (ad (10 + i))]) ++ List.replicate (1 - (lg_sl ([.ref (ad (10 + i))])).length) Slot.unset).toArray = ls at hl ⊢
  have hl : lv_has ls 1 [(0, .ref (ad (10 + i)))] := hl
  refine lv_aload_n hx hb dX0_family_0 rfl (lv_at hl 0 rfl) ?_
  refine vp_callSi (W.runV (As := []) (rest := []) ⟨hx, hb, hml, hown, hts⟩ (c_X0_isRoster l D ci ad z F hf ft fk fp n mk sz pl i  hi ) (cwV 0 hts gX0_family_X0_isRoster rfl rfl rfl (by decide +kernel) ⟨Nat.le_of_ble_eq_true rfl, Nat.le_of_ble_eq_true rfl⟩) ⟨WD.fb, (va_recv hK hP (ci := 0) (q0 := 6 + i) rfl (wC_sh hi)), fun U hU hW => ⟨rfl, WD.call hP hD hK hE hS hU hW⟩⟩ rfl rfl hl.1 rfl (lv_room (Nat.le_of_ble_eq_true rfl)) dX0_family_1 ⟨Nat.le_of_ble_eq_true rfl, Nat.le_of_ble_eq_true rfl⟩) (fun r1 hw1 => ?_)
  rcases hw1 with ⟨rfl, h1⟩ | ⟨rfl, h1⟩
  · skip
    refine lv_if_eq (tgt := 11) hx hb dX0_family_4 (by decide) (fun c4 => absurd c4 (by decide)) (fun c4 => ?_)
    refine lv_iconst (v := 0) hx hb dX0_family_7 (by decide) ?_
    refine lv_goto (tgt := 15) hx hb dX0_family_8 (by decide) ?_
    exact W.iret (v := 0) hx hb hr (fun t ht _ => ⟨_, rfl, (if_pos h1).symm, ht⟩) (fun _ h => nomatch h) dX0_family_15
  · skip
    refine lv_if_eq (tgt := 11) hx hb dX0_family_4 (by decide) (fun c4 => ?_) (fun c4 => absurd c4 (by decide))
    refine lv_aload_n hx hb dX0_family_11 rfl (lv_at hl 0 rfl) ?_
    refine va_get (D := D) (ci := 0) (C := RX0) (T := TX0) (N := 3) hx hb hts hin0 hown hK hP (6 + i) (wC_sh hi) rfl 1 (by decide) (hts (.fieldLink RX0 15 "DutyRota$Sheet" "make" "I") (by decide +kernel)) (fun _ h9 => h9) rfl dX0_family_12 ?_
    exact W.iret (v := (mk i)) hx hb hr (fun t ht _ => ⟨_, rfl, (if_neg h1).symm, ht⟩) (fun _ h => nomatch h) dX0_family_15
set_option maxHeartbeats 4000000 in
set_option maxRecDepth 100000 in
theorem c_X0_hasPlace (l : Launch) (D : va_G) (ci : Nat → ClassId) (ad : Nat → Nat) (z : Nat) (F : va_W) (hf : Nat → Nat) (ft : Nat → Int64) (fk : Nat → Int32) (fp : Nat → Int64) (n : Nat) (mk : Nat → Int32) (sz : Nat → Nat) (pl : Nat → Nat → Int64) (i : Nat) (x : Int32) (hi : i < 10) (hsz : sz i ≤ 40) : Met l yX0_hasPlace wsX0_hasPlace ({ frames := 0, cells := 0, slots := 0, locals := 0 }) (va_Pc [.ref (ad (10 + i)), .int x] (fun U => WD D ci ad z (wC ci ad hf ft fk fp n mk sz pl ++ F) U)) (vp_Si (fun r => (r = 1 ∧ ∃ k, k < sz i ∧ x = nI k) ∨ (r = 0 ∧ (x < 0 ∨ nI (sz i) ≤ x)))) 0 0 (fun _ => False) := by
  refine Met.ofW (cc := cX0_hasPlace) (maxL := 2) (ret := (some .boolean)) (by decide) rfl ?_
  intro p e s m args below meth c s₁ B hml hv
  obtain ⟨rfl, hP, hD, hK, hE⟩ := hv
  have hx := B.exec
  have hb := B.bytes
  have hr := B.returns
  have hts := atoms_spec (ws := wsX0_hasPlace) B.pre
  have hown : s.vm.findClass RX0 = some m.cls := findClass_of_methodNamed B.named
  have hlocks := B.notSynchronized
  have hS : va_S (LA z) s.heap s.heap [] := va_S.rf
  have hin0 : ∀ w ∈ wsX00, w ∈ wsX0_hasPlace := by decide +kernel
  have hl := lv_entry ([.ref (ad (10 + i)), .int x]) (n := 2) (Nat.le_of_ble_eq_true rfl)
  rw [lg_entry_eq]
  generalize (lg_sl ([.ref (ad (10 + i)), .int x]) ++ List.replicate (2 - (lg_sl ([.ref (ad (10 + i)), .int x])).length) Slot.unset).toArray = ls at hl ⊢
  have hl : lv_has ls 2 [(0, .ref (ad (10 + i))), (1, .int x)] := hl
  refine lv_iload_n hx hb dX0_hasPlace_0 rfl (lv_at hl 1 rfl) ?_
  refine lv_if_lt (tgt := 16) hx hb dX0_hasPlace_1 (by decide) (fun c1 => ?_) (fun c1 => ?_)
  · skip
    refine lv_iconst (v := 0) hx hb dX0_hasPlace_16 (by decide) ?_
    exact W.zret (v := 0) hx hb hr rfl (fun t ht _ => ⟨_, rfl, Or.inr ⟨rfl, Or.inl c1⟩, ht⟩) (fun _ h => nomatch h) dX0_hasPlace_17
  · skip
    refine lv_iload_n hx hb dX0_hasPlace_4 rfl (lv_at hl 1 rfl) ?_
    refine lv_aload_n hx hb dX0_hasPlace_5 rfl (lv_at hl 0 rfl) ?_
    refine va_get (D := D) (ci := 0) (C := RX0) (T := TX0) (N := 3) hx hb hts hin0 hown hK hP (6 + i) (wC_sh hi) rfl 2 (by decide) (hts (.fieldLink RX0 19 "DutyRota$Sheet" "size" "I") (by decide +kernel)) (fun _ h9 => h9) rfl dX0_hasPlace_6 ?_
    refine lv_icmp_ge (tgt := 16) hx hb dX0_hasPlace_9 (by decide) (fun c9 => ?_) (fun c9 => ?_)
    · skip
      refine lv_iconst (v := 0) hx hb dX0_hasPlace_16 (by decide) ?_
      exact W.zret (v := 0) hx hb hr rfl (fun t ht _ => ⟨_, rfl, Or.inr ⟨rfl, Or.inr c9⟩, ht⟩) (fun _ h => nomatch h) dX0_hasPlace_17
    · skip
      refine lv_iconst (v := 1) hx hb dX0_hasPlace_12 (by decide) ?_
      refine lv_goto (tgt := 17) hx hb dX0_hasPlace_13 (by decide) ?_
      exact W.zret (v := 1) hx hb hr rfl (fun t ht _ => ⟨_, rfl, Or.inl ⟨rfl, pl_in hsz c1 c9⟩, ht⟩) (fun _ h => nomatch h) dX0_hasPlace_17
set_option maxHeartbeats 4000000 in
set_option maxRecDepth 100000 in
theorem c_X0_hasSpan (l : Launch) (D : va_G) (ci : Nat → ClassId) (ad : Nat → Nat) (z : Nat) (F : va_W) (hf : Nat → Nat) (ft : Nat → Int64) (fk : Nat → Int32) (fp : Nat → Int64) (n : Nat) (mk : Nat → Int32) (sz : Nat → Nat) (pl : Nat → Nat → Int64) (i : Nat) (x y : Int32) (hi : i < 10) (hsz : sz i ≤ 40) : Met l yX0_hasSpan wsX0_hasSpan ({ frames := 0, cells := 0, slots := 0, locals := 0 }) (va_Pc [.ref (ad (10 + i)), .int x, .int y] (fun U => WD D ci ad z (wC ci ad hf ft fk fp n mk sz pl ++ F) U)) (vp_Si (fun r => (r = 1 ∧ ∃ j k, x = nI j ∧ y = nI k ∧ j + k ≤ sz i) ∨ (r = 0 ∧ noSpan x y (sz i)))) 0 0 (fun _ => False) := by
  refine Met.ofW (cc := cX0_hasSpan) (maxL := 3) (ret := (some .boolean)) (by decide) rfl ?_
  intro p e s m args below meth c s₁ B hml hv
  obtain ⟨rfl, hP, hD, hK, hE⟩ := hv
  have hx := B.exec
  have hb := B.bytes
  have hr := B.returns
  have hts := atoms_spec (ws := wsX0_hasSpan) B.pre
  have hown : s.vm.findClass RX0 = some m.cls := findClass_of_methodNamed B.named
  have hlocks := B.notSynchronized
  have hS : va_S (LA z) s.heap s.heap [] := va_S.rf
  have hin0 : ∀ w ∈ wsX00, w ∈ wsX0_hasSpan := by decide +kernel
  have hl := lv_entry ([.ref (ad (10 + i)), .int x, .int y]) (n := 3) (Nat.le_of_ble_eq_true rfl)
  rw [lg_entry_eq]
  generalize (lg_sl ([.ref (ad (10 + i)), .int x, .int y]) ++ List.replicate (3 - (lg_sl ([.ref (ad (10 + i)), .int x, .int y])).length) Slot.unset).toArray = ls at hl ⊢
  have hl : lv_has ls 3 [(0, .ref (ad (10 + i))), (1, .int x), (2, .int y)] := hl
  refine lv_iload_n hx hb dX0_hasSpan_0 rfl (lv_at hl 1 rfl) ?_
  refine lv_if_lt (tgt := 26) hx hb dX0_hasSpan_1 (by decide) (fun c1 => ?_) (fun c1 => ?_)
  · skip
    refine lv_iconst (v := 0) hx hb dX0_hasSpan_26 (by decide) ?_
    exact W.zret (v := 0) hx hb hr rfl (fun t ht _ => ⟨_, rfl, Or.inr ⟨rfl, Or.inl c1⟩, ht⟩) (fun _ h => nomatch h) dX0_hasSpan_27
  · skip
    refine lv_iload_n hx hb dX0_hasSpan_4 rfl (lv_at hl 2 rfl) ?_
    refine lv_if_lt (tgt := 26) hx hb dX0_hasSpan_5 (by decide) (fun c5 => ?_) (fun c5 => ?_)
    · skip
      refine lv_iconst (v := 0) hx hb dX0_hasSpan_26 (by decide) ?_
      exact W.zret (v := 0) hx hb hr rfl (fun t ht _ => ⟨_, rfl, Or.inr ⟨rfl, Or.inr (Or.inl c5)⟩, ht⟩) (fun _ h => nomatch h) dX0_hasSpan_27
    · skip
      refine lv_iload_n hx hb dX0_hasSpan_8 rfl (lv_at hl 1 rfl) ?_
      refine lv_i2l hx hb dX0_hasSpan_9 rfl ?_
      refine lv_iload_n hx hb dX0_hasSpan_10 rfl (lv_at hl 2 rfl) ?_
      refine lv_i2l hx hb dX0_hasSpan_11 rfl ?_
      refine lv_ladd hx hb dX0_hasSpan_12 ?_
      refine lv_aload_n hx hb dX0_hasSpan_13 rfl (lv_at hl 0 rfl) ?_
      refine va_get (D := D) (ci := 0) (C := RX0) (T := TX0) (N := 3) hx hb hts hin0 hown hK hP (6 + i) (wC_sh hi) rfl 2 (by decide) (hts (.fieldLink RX0 19 "DutyRota$Sheet" "size" "I") (by decide +kernel)) (fun _ h9 => h9) rfl dX0_hasSpan_14 ?_
      refine lv_i2l hx hb dX0_hasSpan_17 rfl ?_
      refine lv_lcmp3 hx hb dX0_hasSpan_18 (fun x_1 ex_1 => ?_)
      refine lv_if_gt (tgt := 26) hx hb dX0_hasSpan_19 (by decide) (fun c19 => ?_) (fun c19 => ?_)
      · skip
        refine lv_iconst (v := 0) hx hb dX0_hasSpan_26 (by decide) ?_
        exact W.zret (v := 0) hx hb hr rfl (fun t ht _ => ⟨_, rfl, Or.inr ⟨rfl, Or.inr (Or.inr (sp_gt ex_1 c19))⟩, ht⟩) (fun _ h => nomatch h) dX0_hasSpan_27
      · skip
        refine lv_iconst (v := 1) hx hb dX0_hasSpan_22 (by decide) ?_
        refine lv_goto (tgt := 27) hx hb dX0_hasSpan_23 (by decide) ?_
        exact W.zret (v := 1) hx hb hr rfl (fun t ht _ => ⟨_, rfl, Or.inl ⟨rfl, sp_in hsz c1 c5 (sp_le ex_1 c19)⟩, ht⟩) (fun _ h => nomatch h) dX0_hasSpan_27
set_option maxHeartbeats 4000000 in
set_option maxRecDepth 100000 in
theorem c_X0_blank (l : Launch) (D : va_G) (ci : Nat → ClassId) (ad : Nat → Nat) (z : Nat) (F : va_W) (hf : Nat → Nat) (ft : Nat → Int64) (fk : Nat → Int32) (fp : Nat → Int64) (n : Nat) (mk : Nat → Int32) (sz : Nat → Nat) (pl : Nat → Nat → Int64) (i : Nat) (a b : Nat) (hi : i < 10) (h9 : i < 9) (hab : a ≤ b) (hb40 : b ≤ 40) : Met l yX0_blank wsX0_blank ({ frames := 1, cells := 0, slots := 0, locals := 20 }) (va_Pc [.ref (ad (10 + i)), .int (nI a), .int (nI b)] (fun U => WD D ci ad z (wC ci ad hf ft fk fp n mk sz pl ++ F) U)) (va_Qv (fun (u : Nat → Nat → Int64) => u = blanked mk pl i a b) (fun u t => va_P D vwCl (wC ci ad hf ft fk fp n mk sz u ++ F) t.heap ∧ va_D (LA z) (wC ci ad hf ft fk fp n mk sz u ++ F)) (LA z)) 0 0 (LA z) := by
  refine Met.ofW (cc := cX0_blank) (maxL := 6) (ret := none) (by decide) rfl ?_
  intro p e s m args below meth c s₁ B hml hv
  obtain ⟨rfl, hP, hD, hK, hE⟩ := hv
  have hx := B.exec
  have hb := B.bytes
  have hr := B.returns
  have hts := atoms_spec (ws := wsX0_blank) B.pre
  have hown : s.vm.findClass RX0 = some m.cls := findClass_of_methodNamed B.named
  have hlocks := B.notSynchronized
  have hS : va_S (LA z) s.heap s.heap [] := va_S.rf
  have hin0 : ∀ w ∈ wsX00, w ∈ wsX0_blank := by decide +kernel
  have hl := lv_entry ([.ref (ad (10 + i)), .int (nI a), .int (nI b)]) (n := 6) (Nat.le_of_ble_eq_true rfl)
  rw [lg_entry_eq]
  generalize (lg_sl ([.ref (ad (10 + i)), .int (nI a), .int (nI b)]) ++ List.replicate (6 - (lg_sl ([.ref (ad (10 + i)), .int (nI a), .int (nI b)])).length) Slot.unset).toArray = ls at hl ⊢
  have hl : lv_has ls 6 [(0, .ref (ad (10 + i))), (1, .int (nI a)), (2, .int (nI b))] := hl
  refine lv_aload_n hx hb dX0_blank_0 rfl (lv_at hl 0 rfl) ?_
  refine vp_callSi (W.runV (As := []) (rest := []) ⟨hx, hb, hml, hown, hts⟩ (c_X0_isRoster l D ci ad z F hf ft fk fp n mk sz pl i  hi ) (cwV 0 hts gX0_blank_X0_isRoster rfl rfl rfl (by decide +kernel) ⟨Nat.le_of_ble_eq_true rfl, Nat.le_of_ble_eq_true rfl⟩) ⟨WD.fb, (va_recv hK hP (ci := 0) (q0 := 6 + i) rfl (wC_sh hi)), fun U hU hW => ⟨rfl, WD.call hP hD hK hE hS hU hW⟩⟩ rfl rfl hl.1 rfl (lv_room (Nat.le_of_ble_eq_true rfl)) dX0_blank_1 ⟨Nat.le_of_ble_eq_true rfl, Nat.le_of_ble_eq_true rfl⟩) (fun r1 hw1 => ?_)
  rcases hw1 with ⟨rfl, h1⟩ | ⟨rfl, h1⟩
  · skip
    refine lv_if_eq (tgt := 13) hx hb dX0_blank_4 (by decide) (fun c4 => absurd c4 (by decide)) (fun c4 => ?_)
    refine lv_ldc2 hx hb hown (hts (.constantLong RX0 30 (-1)) (by decide +kernel)) dX0_blank_7 ?_
    refine lv_goto (tgt := 14) hx hb dX0_blank_10 (by decide) ?_
    refine rw_topl (y := blankV (mk i)) (blankV_t h1) ?_
    refine lv_lstore_n (lv' := [(3, .long (blankV (mk i))), (0, .ref (ad (10 + i))), (1, .int (nI a)), (2, .int (nI b))]) hx hb dX0_blank_14 rfl hl (by decide) rfl (fun ls hl => ?_)
    refine lv_iload_n hx hb dX0_blank_15 rfl (lv_at hl 2 rfl) ?_
    refine lv_istore (lv' := [(5, .int (nI a)), (3, .long (blankV (mk i))), (0, .ref (ad (10 + i))), (1, .int (nI a)), (2, .int (nI b))]) hx hb dX0_blank_16 hl (by decide) rfl (fun ls hl => ?_)
    have loop18 : ∀ (d18 : Nat) (k : Nat) (pl1 : Nat → Nat → Int64) (hd18 : b + 1 ≤ k + d18) (hka : a ≤ k) (hkb : k ≤ b) (hpl : pl1 = blanked mk pl i a k) (H : Heap) (locs : List Loc) (hP : va_P D vwCl (wC ci ad hf ft fk fp n mk sz pl1 ++ F) H) (hD : va_D (LA z) (wC ci ad hf ft fk fp n mk sz pl1 ++ F)) (hS : va_S (LA z) s.heap H locs) (ls : Array Slot) (hl : lv_has ls 6 [(5, .int (nI k)), (3, .long (blankV (mk i))), (0, .ref (ad (10 + i))), (1, .int (nI a)), (2, .int (nI b))]), W p l e ({ frames := 1, cells := 0, slots := 0, locals := 20 } : Room) s m ([.ref (ad (10 + i)), .int (nI a), .int (nI b)] : List Value).toArray below meth c H locs 0 0 (MQ below (va_Qv (fun (u : Nat → Nat → Int64) => u = blanked mk pl i a b) (fun u t => va_P D vwCl (wC ci ad hf ft fk fp n mk sz u ++ F) t.heap ∧ va_D (LA z) (wC ci ad hf ft fk fp n mk sz u ++ F)) (LA z)) ([.ref (ad (10 + i)), .int (nI a), .int (nI b)] : List Value).toArray s 0 0 (LA z)) (F0 m 18 ls []) := by
      intro d18
      induction d18 with
      | zero => intro k pl1 hd18 hka hkb hpl H locs hP hD hS ls hl; exact absurd hd18 (by omega)
      | succ d18 ih18 =>
        intro k pl1 hd18 hka hkb hpl H locs hP hD hS ls hl
        refine lv_iload hx hb dX0_blank_18 (lv_at hl 0 rfl) ?_
        refine lv_iload_n hx hb dX0_blank_20 rfl (lv_at hl 4 rfl) ?_
        refine lv_icmp_ge (tgt := 38) hx hb dX0_blank_21 (by decide) (fun c21 => ?_) (fun c21 => ?_)
        · skip
          have hak : b ≤ k := nI_ge_of c21 (by omega) (by omega)
          exact W.vret hx hb hr (fun t ht _ => ⟨⟨(pl1), rfl, by rw [hpl, show k = b by omega], by rw [ht]; exact hP, hD⟩, hS.F ht⟩) hS.2.2 dX0_blank_38
        · skip
          have hak : k < b := nI_lt_of c21 (by omega) (by omega)
          refine lv_aload_n hx hb dX0_blank_24 rfl (lv_at hl 2 rfl) ?_
          refine va_get (D := D) (ci := 0) (C := RX0) (T := TX0) (N := 3) hx hb hts hin0 hown hK hP (6 + i) (wC_sh hi) rfl 0 (by decide) (hts (.fieldLink RX0 9 "DutyRota$Sheet" "places" "[J") (by decide +kernel)) (fun _ h9 => h9) rfl dX0_blank_25 ?_
          refine lv_iload hx hb dX0_blank_28 (lv_at hl 0 rfl) ?_
          refine lv_lload_n hx hb dX0_blank_30 rfl (lv_at hl 1 rfl) ?_
          refine rw_lst hx hb hK hP hD hS (16 + i) 1 (wC_pl h9) rfl (j := k) (rfl) (by omega) (by decide) (ws' := wC ci ad hf ft fk fp n mk sz (va_up pl1 i (vp_updL (pl1 i) k (blankV (mk i)))) ++ F) (wC_set_pl h9 _) dX0_blank_31 (fun H locs hP hD hS => ?_)
          refine lv_iinc (v := (nI (k + 1))) (lv' := [(5, .int (nI (k + 1))), (3, .long (blankV (mk i))), (0, .ref (ad (10 + i))), (1, .int (nI a)), (2, .int (nI b))]) hx hb dX0_blank_32 hl (k := 0) rfl (nI_1 _) (by decide) rfl (fun ls hl => ?_)
          refine lv_goto (tgt := 18) hx hb dX0_blank_35 (by decide) ?_
          exact ih18 (k + 1) (va_up pl1 i (vp_updL (pl1 i) k (blankV (mk i)))) (by omega) (by omega) (by omega) (by rw [hpl]; exact blanked_s mk pl i hka) H locs hP hD hS ls (lv_sub hl [0, 1, 2, 3, 4] rfl)
    exact loop18 (b + 1) a pl (by omega) (by omega) (by omega) ((blanked_0 mk pl i a).symm) s.heap [] hP hD hS ls (lv_sub hl [0, 1, 2, 3, 4] rfl)
  · skip
    refine lv_if_eq (tgt := 13) hx hb dX0_blank_4 (by decide) (fun c4 => ?_) (fun c4 => absurd c4 (by decide))
    refine lv_lconst (v := 0) hx hb dX0_blank_13 (by decide) ?_
    refine rw_topl (y := blankV (mk i)) (blankV_f h1) ?_
    refine lv_lstore_n (lv' := [(3, .long (blankV (mk i))), (0, .ref (ad (10 + i))), (1, .int (nI a)), (2, .int (nI b))]) hx hb dX0_blank_14 rfl hl (by decide) rfl (fun ls hl => ?_)
    refine lv_iload_n hx hb dX0_blank_15 rfl (lv_at hl 2 rfl) ?_
    refine lv_istore (lv' := [(5, .int (nI a)), (3, .long (blankV (mk i))), (0, .ref (ad (10 + i))), (1, .int (nI a)), (2, .int (nI b))]) hx hb dX0_blank_16 hl (by decide) rfl (fun ls hl => ?_)
    have loop18 : ∀ (d18 : Nat) (k : Nat) (pl1 : Nat → Nat → Int64) (hd18 : b + 1 ≤ k + d18) (hka : a ≤ k) (hkb : k ≤ b) (hpl : pl1 = blanked mk pl i a k) (H : Heap) (locs : List Loc) (hP : va_P D vwCl (wC ci ad hf ft fk fp n mk sz pl1 ++ F) H) (hD : va_D (LA z) (wC ci ad hf ft fk fp n mk sz pl1 ++ F)) (hS : va_S (LA z) s.heap H locs) (ls : Array Slot) (hl : lv_has ls 6 [(5, .int (nI k)), (3, .long (blankV (mk i))), (0, .ref (ad (10 + i))), (1, .int (nI a)), (2, .int (nI b))]), W p l e ({ frames := 1, cells := 0, slots := 0, locals := 20 } : Room) s m ([.ref (ad (10 + i)), .int (nI a), .int (nI b)] : List Value).toArray below meth c H locs 0 0 (MQ below (va_Qv (fun (u : Nat → Nat → Int64) => u = blanked mk pl i a b) (fun u t => va_P D vwCl (wC ci ad hf ft fk fp n mk sz u ++ F) t.heap ∧ va_D (LA z) (wC ci ad hf ft fk fp n mk sz u ++ F)) (LA z)) ([.ref (ad (10 + i)), .int (nI a), .int (nI b)] : List Value).toArray s 0 0 (LA z)) (F0 m 18 ls []) := by
      intro d18
      induction d18 with
      | zero => intro k pl1 hd18 hka hkb hpl H locs hP hD hS ls hl; exact absurd hd18 (by omega)
      | succ d18 ih18 =>
        intro k pl1 hd18 hka hkb hpl H locs hP hD hS ls hl
        refine lv_iload hx hb dX0_blank_18 (lv_at hl 0 rfl) ?_
        refine lv_iload_n hx hb dX0_blank_20 rfl (lv_at hl 4 rfl) ?_
        refine lv_icmp_ge (tgt := 38) hx hb dX0_blank_21 (by decide) (fun c21 => ?_) (fun c21 => ?_)
        · skip
          have hak : b ≤ k := nI_ge_of c21 (by omega) (by omega)
          exact W.vret hx hb hr (fun t ht _ => ⟨⟨(pl1), rfl, by rw [hpl, show k = b by omega], by rw [ht]; exact hP, hD⟩, hS.F ht⟩) hS.2.2 dX0_blank_38
        · skip
          have hak : k < b := nI_lt_of c21 (by omega) (by omega)
          refine lv_aload_n hx hb dX0_blank_24 rfl (lv_at hl 2 rfl) ?_
          refine va_get (D := D) (ci := 0) (C := RX0) (T := TX0) (N := 3) hx hb hts hin0 hown hK hP (6 + i) (wC_sh hi) rfl 0 (by decide) (hts (.fieldLink RX0 9 "DutyRota$Sheet" "places" "[J") (by decide +kernel)) (fun _ h9 => h9) rfl dX0_blank_25 ?_
          refine lv_iload hx hb dX0_blank_28 (lv_at hl 0 rfl) ?_
          refine lv_lload_n hx hb dX0_blank_30 rfl (lv_at hl 1 rfl) ?_
          refine rw_lst hx hb hK hP hD hS (16 + i) 1 (wC_pl h9) rfl (j := k) (rfl) (by omega) (by decide) (ws' := wC ci ad hf ft fk fp n mk sz (va_up pl1 i (vp_updL (pl1 i) k (blankV (mk i)))) ++ F) (wC_set_pl h9 _) dX0_blank_31 (fun H locs hP hD hS => ?_)
          refine lv_iinc (v := (nI (k + 1))) (lv' := [(5, .int (nI (k + 1))), (3, .long (blankV (mk i))), (0, .ref (ad (10 + i))), (1, .int (nI a)), (2, .int (nI b))]) hx hb dX0_blank_32 hl (k := 0) rfl (nI_1 _) (by decide) rfl (fun ls hl => ?_)
          refine lv_goto (tgt := 18) hx hb dX0_blank_35 (by decide) ?_
          exact ih18 (k + 1) (va_up pl1 i (vp_updL (pl1 i) k (blankV (mk i)))) (by omega) (by omega) (by omega) (by rw [hpl]; exact blanked_s mk pl i hka) H locs hP hD hS ls (lv_sub hl [0, 1, 2, 3, 4] rfl)
    exact loop18 (b + 1) a pl (by omega) (by omega) (by omega) ((blanked_0 mk pl i a).symm) s.heap [] hP hD hS ls (lv_sub hl [0, 1, 2, 3, 4] rfl)
set_option maxHeartbeats 4000000 in
set_option maxRecDepth 100000 in
theorem c_X0_become (l : Launch) (D : va_G) (ci : Nat → ClassId) (ad : Nat → Nat) (z : Nat) (F : va_W) (hf : Nat → Nat) (ft : Nat → Int64) (fk : Nat → Int32) (fp : Nat → Int64) (n : Nat) (mk : Nat → Int32) (sz : Nat → Nat) (pl : Nat → Nat → Int64) (i : Nat) (x : Int32) (b : Nat) (hi : i < 10) (h9 : i < 9) (hb40 : b ≤ 40) : Met l yX0_become wsX0_become ({ frames := 2, cells := 0, slots := 0, locals := 45 }) (va_Pc [.ref (ad (10 + i)), .int x, .int (nI b)] (fun U => WD D ci ad z (wC ci ad hf ft fk fp n mk sz pl ++ F) U)) (va_Qv (fun (u : Nat → Nat → Int64) => u = blanked (va_up mk i x) pl i 0 b) (fun u t => va_P D vwCl (wC ci ad hf ft fk fp n (va_up mk i x) (va_up sz i b) u ++ F) t.heap ∧ va_D (LA z) (wC ci ad hf ft fk fp n (va_up mk i x) (va_up sz i b) u ++ F)) (LA z)) 0 0 (LA z) := by
  refine Met.ofW (cc := cX0_become) (maxL := 3) (ret := none) (by decide) rfl ?_
  intro p e s m args below meth c s₁ B hml hv
  obtain ⟨rfl, hP, hD, hK, hE⟩ := hv
  have hx := B.exec
  have hb := B.bytes
  have hr := B.returns
  have hts := atoms_spec (ws := wsX0_become) B.pre
  have hown : s.vm.findClass RX0 = some m.cls := findClass_of_methodNamed B.named
  have hlocks := B.notSynchronized
  have hS : va_S (LA z) s.heap s.heap [] := va_S.rf
  have hin0 : ∀ w ∈ wsX00, w ∈ wsX0_become := by decide +kernel
  have hl := lv_entry ([.ref (ad (10 + i)), .int x, .int (nI b)]) (n := 3) (Nat.le_of_ble_eq_true rfl)
  rw [lg_entry_eq]
  generalize (lg_sl ([.ref (ad (10 + i)), .int x, .int (nI b)]) ++ List.replicate (3 - (lg_sl ([.ref (ad (10 + i)), .int x, .int (nI b)])).length) Slot.unset).toArray = ls at hl ⊢
  have hl : lv_has ls 3 [(0, .ref (ad (10 + i))), (1, .int x), (2, .int (nI b))] := hl
  refine lv_aload_n hx hb dX0_become_0 rfl (lv_at hl 0 rfl) ?_
  refine lv_iload_n hx hb dX0_become_1 rfl (lv_at hl 1 rfl) ?_
  refine va_put (D := D) (ci := 0) (ty := .int) (C := RX0) (T := TX0) (N := 3) hx hb hts hin0 tyX0 tyX0_ok nmX0 hown hK hP hD hS (6 + i) (wC_sh hi) rfl 1 (by decide) (hts (.fieldLink RX0 15 "DutyRota$Sheet" "make" "I") (by decide +kernel)) (fun _ h9 => h9) rfl (by decide +kernel) rfl rfl (Nat.le_of_ble_eq_true rfl) dX0_become_2 (fun H locs hP hD hS => ?_)
  rw [show ((6 : Nat) + i) = 6 + i from rfl] at hP hD
  have hP := wC_set_mk hi x ▸ hP
  have hD := wC_set_mk hi x ▸ hD
  have hP : va_P D vwCl (wC ci ad hf ft fk fp n (va_up mk i x) sz pl ++ F) H := wC_set_mk hi x ▸ hP
  have hD : va_D (LA z) (wC ci ad hf ft fk fp n (va_up mk i x) sz pl ++ F) := wC_set_mk hi x ▸ hD
  refine lv_aload_n hx hb dX0_become_5 rfl (lv_at hl 0 rfl) ?_
  refine lv_iload_n hx hb dX0_become_6 rfl (lv_at hl 2 rfl) ?_
  refine va_put (D := D) (ci := 0) (ty := .int) (C := RX0) (T := TX0) (N := 3) hx hb hts hin0 tyX0 tyX0_ok nmX0 hown hK hP hD hS (6 + i) (wC_sh hi) rfl 2 (by decide) (hts (.fieldLink RX0 19 "DutyRota$Sheet" "size" "I") (by decide +kernel)) (fun _ h9 => h9) rfl (by decide +kernel) rfl rfl (Nat.le_of_ble_eq_true rfl) dX0_become_7 (fun H locs hP hD hS => ?_)
  have hP : va_P D vwCl (wC ci ad hf ft fk fp n (va_up mk i x) (va_up sz i b) pl ++ F) H := wC_set_sz hi b ▸ hP
  have hD : va_D (LA z) (wC ci ad hf ft fk fp n (va_up mk i x) (va_up sz i b) pl ++ F) := wC_set_sz hi b ▸ hD
  refine lv_aload_n hx hb dX0_become_10 rfl (lv_at hl 0 rfl) ?_
  refine lv_iconst (v := 0) hx hb dX0_become_11 (by decide) ?_
  refine rw_topi (y := nI 0) rfl ?_
  refine lv_iload_n hx hb dX0_become_12 rfl (lv_at hl 2 rfl) ?_
  refine va_callv (va_runV (As := [.int (nI 0), .int (nI b)]) (rest := []) ⟨hx, hb, hml, hown, hts⟩ (c_X0_blank l D ci ad z F hf ft fk fp n (va_up mk i x) (va_up sz i b) pl i 0 b hi h9 (Nat.zero_le b) hb40) (cwV 2 hts gX0_become_X0_blank rfl rfl rfl (by decide +kernel) ⟨Nat.le_of_ble_eq_true rfl, Nat.le_of_ble_eq_true rfl⟩) ⟨WD.fb, (va_recv hK hP (ci := 0) (q0 := 6 + i) rfl (wC_sh hi)), fun U hU hW => ⟨rfl, WD.call hP hD hK hE hS hU hW⟩⟩ rfl rfl hl.1 rfl (lv_room (Nat.le_of_ble_eq_true rfl)) dX0_become_13 ⟨Nat.le_of_ble_eq_true rfl, Nat.le_of_ble_eq_true rfl⟩) hS (fun q _ h => h) (fun q h => h) (fun u13 t13 H locs ht13 hvm13 hw13 hB13 hz13 hk13 hS => ?_)
  obtain ⟨hP, hD⟩ := hB13
  rw [ht13] at hP
  exact W.vret hx hb hr (fun t ht _ => ⟨⟨(u13), rfl, hw13, by rw [ht]; exact hP, hD⟩, hS.F ht⟩) hS.2.2 dX0_become_16
