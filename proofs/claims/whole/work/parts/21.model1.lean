set_option maxHeartbeats 4000000 in
set_option maxRecDepth 100000 in
theorem c_X2_thrown (l : Launch) (D : va_G) (ci : Nat → ClassId) (ad : Nat → Nat) (z : Nat) (F : va_W) (th : Int32) (hd : Nat → Int32) (mk : Nat → Int32) (sz : Nat → Int32) (ce : Nat → Int64) (as : Nat → Int64) (np : Nat) (kd : Nat → Int32) (pu : Nat → Int64) : Met l yX2_thrown wsX2_thrown ({ frames := 0, cells := 0, slots := 0, locals := 0 }) (va_Pc [.ref (ad 30)] (fun U => WD D ci ad z (wM ci ad th hd mk sz ce as np kd pu ++ F) U)) (vp_Si (fun r => r = th)) 0 0 (fun _ => False) := by
  refine Met.ofW (cc := cX2_thrown) (maxL := 1) (ret := (some .int)) (by decide) rfl ?_
  intro p e s m args below meth c s₁ B hml hv
  obtain ⟨rfl, hP, hD, hK, hE⟩ := hv
  have hx := B.exec
  have hb := B.bytes
  have hr := B.returns
  have hts := atoms_spec (ws := wsX2_thrown) B.pre
  have hown : s.vm.findClass RX2 = some m.cls := findClass_of_methodNamed B.named
  have hlocks := B.notSynchronized
  have hS : va_S (LA z) s.heap s.heap [] := va_S.rf
  have hin2 : ∀ w ∈ wsX20, w ∈ wsX2_thrown := by decide +kernel
  have hl := lv_entry ([.ref (ad 30)]) (n := 1) (Nat.le_of_ble_eq_true rfl)
  rw [lg_entry_eq]
  generalize (lg_sl ([.ref (ad 30)]) ++ List.replicate (1 - (lg_sl ([.ref (ad 30)])).length) Slot.unset).toArray = ls at hl ⊢
  have hl : lv_has ls 1 [(0, .ref (ad 30))] := hl
  refine lv_aload_n hx hb dX2_thrown_0 rfl (lv_at hl 0 rfl) ?_
  refine va_get (D := D) (ci := 2) (C := RX2) (T := TX2) (N := 9) hx hb hts hin2 hown hK hP 0 rfl rfl 0 (by decide) (hts (.fieldLink RX2 32 "DutyRotaModel" "thrown" "I") (by decide +kernel)) (fun _ h9 => h9) rfl dX2_thrown_1 ?_
  exact W.iret (v := th) hx hb hr (fun t ht _ => ⟨_, rfl, rfl, ht⟩) (fun _ h => nomatch h) dX2_thrown_4
set_option maxHeartbeats 4000000 in
set_option maxRecDepth 100000 in
theorem c_X2_fails (l : Launch) (D : va_G) (ci : Nat → ClassId) (ad : Nat → Nat) (z : Nat) (F : va_W) (th : Int32) (hd : Nat → Int32) (mk : Nat → Int32) (sz : Nat → Int32) (ce : Nat → Int64) (as : Nat → Int64) (np : Nat) (kd : Nat → Int32) (pu : Nat → Int64) (b1 b2 : Int32) : Met l yX2_fails wsX2_fails ({ frames := 0, cells := 0, slots := 0, locals := 0 }) (va_Pc [.ref (ad 30), .int b1, .int b2] (fun U => WD D ci ad z (wM ci ad th hd mk sz ce as np kd pu ++ F) U)) (va_Qi (fun (r : Int32) (u : Int32) => (r = 1 ∧ ((¬ b1 = 0 ∧ u = 1) ∨ (b1 = 0 ∧ ¬ b2 = 0 ∧ u = 2))) ∨ (r = 0 ∧ b1 = 0 ∧ b2 = 0 ∧ u = 0)) (fun u t => va_P D vwCl (wM ci ad u hd mk sz ce as np kd pu ++ F) t.heap ∧ va_D (LA z) (wM ci ad u hd mk sz ce as np kd pu ++ F)) (LA z)) 0 0 (LA z) := by
  refine Met.ofW (cc := cX2_fails) (maxL := 3) (ret := (some .boolean)) (by decide) rfl ?_
  intro p e s m args below meth c s₁ B hml hv
  obtain ⟨rfl, hP, hD, hK, hE⟩ := hv
  have hx := B.exec
  have hb := B.bytes
  have hr := B.returns
  have hts := atoms_spec (ws := wsX2_fails) B.pre
  have hown : s.vm.findClass RX2 = some m.cls := findClass_of_methodNamed B.named
  have hlocks := B.notSynchronized
  have hS : va_S (LA z) s.heap s.heap [] := va_S.rf
  have hin2 : ∀ w ∈ wsX20, w ∈ wsX2_fails := by decide +kernel
  have hl := lv_entry ([.ref (ad 30), .int b1, .int b2]) (n := 3) (Nat.le_of_ble_eq_true rfl)
  rw [lg_entry_eq]
  generalize (lg_sl ([.ref (ad 30), .int b1, .int b2]) ++ List.replicate (3 - (lg_sl ([.ref (ad 30), .int b1, .int b2])).length) Slot.unset).toArray = ls at hl ⊢
  have hl : lv_has ls 3 [(0, .ref (ad 30)), (1, .int b1), (2, .int b2)] := hl
  refine lv_aload_n hx hb dX2_fails_0 rfl (lv_at hl 0 rfl) ?_
  refine lv_iload_n hx hb dX2_fails_1 rfl (lv_at hl 1 rfl) ?_
  refine lv_if_eq (tgt := 9) hx hb dX2_fails_2 (by decide) (fun c2 => ?_) (fun c2 => ?_)
  · skip
    refine lv_iload_n hx hb dX2_fails_9 rfl (lv_at hl 2 rfl) ?_
    refine lv_if_eq (tgt := 17) hx hb dX2_fails_10 (by decide) (fun c10 => ?_) (fun c10 => ?_)
    · skip
      refine lv_iconst (v := 0) hx hb dX2_fails_17 (by decide) ?_
      refine va_put (D := D) (ci := 2) (ty := .int) (C := RX2) (T := TX2) (N := 9) hx hb hts hin2 tyX2 tyX2_ok nmX2 hown hK hP hD hS 0 rfl rfl 0 (by decide) (hts (.fieldLink RX2 32 "DutyRotaModel" "thrown" "I") (by decide +kernel)) (fun _ h9 => h9) rfl (by decide +kernel) rfl rfl (Nat.le_of_ble_eq_true rfl) dX2_fails_18 (fun H locs hP hD hS => ?_)
      have hP : va_P D vwCl (wM ci ad 0 hd mk sz ce as np kd pu ++ F) H := hP
      have hD : va_D (LA z) (wM ci ad 0 hd mk sz ce as np kd pu ++ F) := hD
      refine lv_iload_n hx hb dX2_fails_21 rfl (lv_at hl 1 rfl) ?_
      refine lv_if_ne (tgt := 29) hx hb dX2_fails_22 (by decide) (fun c22 => by exact absurd c2 c22) (fun c22 => ?_)
      refine lv_iload_n hx hb dX2_fails_25 rfl (lv_at hl 2 rfl) ?_
      refine lv_if_eq (tgt := 33) hx hb dX2_fails_26 (by decide) (fun c26 => ?_) (fun c26 => by exact absurd c10 c26)
      refine lv_iconst (v := 0) hx hb dX2_fails_33 (by decide) ?_
      exact W.zret (v := 0) hx hb hr rfl (fun t ht _ => ⟨⟨_, (0), rfl, Or.inr ⟨rfl, c2, c10, rfl⟩, by rw [ht]; exact hP, hD⟩, hS.F ht⟩) hS.2.2 dX2_fails_34
    · skip
      refine lv_iconst (v := 2) hx hb dX2_fails_13 (by decide) ?_
      refine lv_goto (tgt := 18) hx hb dX2_fails_14 (by decide) ?_
      refine va_put (D := D) (ci := 2) (ty := .int) (C := RX2) (T := TX2) (N := 9) hx hb hts hin2 tyX2 tyX2_ok nmX2 hown hK hP hD hS 0 rfl rfl 0 (by decide) (hts (.fieldLink RX2 32 "DutyRotaModel" "thrown" "I") (by decide +kernel)) (fun _ h9 => h9) rfl (by decide +kernel) rfl rfl (Nat.le_of_ble_eq_true rfl) dX2_fails_18 (fun H locs hP hD hS => ?_)
      have hP : va_P D vwCl (wM ci ad 2 hd mk sz ce as np kd pu ++ F) H := hP
      have hD : va_D (LA z) (wM ci ad 2 hd mk sz ce as np kd pu ++ F) := hD
      refine lv_iload_n hx hb dX2_fails_21 rfl (lv_at hl 1 rfl) ?_
      refine lv_if_ne (tgt := 29) hx hb dX2_fails_22 (by decide) (fun c22 => by exact absurd c2 c22) (fun c22 => ?_)
      refine lv_iload_n hx hb dX2_fails_25 rfl (lv_at hl 2 rfl) ?_
      refine lv_if_eq (tgt := 33) hx hb dX2_fails_26 (by decide) (fun c26 => by exact absurd c26 c10) (fun c26 => ?_)
      refine lv_iconst (v := 1) hx hb dX2_fails_29 (by decide) ?_
      refine lv_goto (tgt := 34) hx hb dX2_fails_30 (by decide) ?_
      exact W.zret (v := 1) hx hb hr rfl (fun t ht _ => ⟨⟨_, (2), rfl, Or.inl ⟨rfl, Or.inr ⟨c2, c10, rfl⟩⟩, by rw [ht]; exact hP, hD⟩, hS.F ht⟩) hS.2.2 dX2_fails_34
  · skip
    refine lv_iconst (v := 1) hx hb dX2_fails_5 (by decide) ?_
    refine lv_goto (tgt := 18) hx hb dX2_fails_6 (by decide) ?_
    refine va_put (D := D) (ci := 2) (ty := .int) (C := RX2) (T := TX2) (N := 9) hx hb hts hin2 tyX2 tyX2_ok nmX2 hown hK hP hD hS 0 rfl rfl 0 (by decide) (hts (.fieldLink RX2 32 "DutyRotaModel" "thrown" "I") (by decide +kernel)) (fun _ h9 => h9) rfl (by decide +kernel) rfl rfl (Nat.le_of_ble_eq_true rfl) dX2_fails_18 (fun H locs hP hD hS => ?_)
    have hP : va_P D vwCl (wM ci ad 1 hd mk sz ce as np kd pu ++ F) H := hP
    have hD : va_D (LA z) (wM ci ad 1 hd mk sz ce as np kd pu ++ F) := hD
    refine lv_iload_n hx hb dX2_fails_21 rfl (lv_at hl 1 rfl) ?_
    refine lv_if_ne (tgt := 29) hx hb dX2_fails_22 (by decide) (fun c22 => ?_) (fun c22 => by exact absurd c22 c2)
    refine lv_iconst (v := 1) hx hb dX2_fails_29 (by decide) ?_
    refine lv_goto (tgt := 34) hx hb dX2_fails_30 (by decide) ?_
    exact W.zret (v := 1) hx hb hr rfl (fun t ht _ => ⟨⟨_, (1), rfl, Or.inl ⟨rfl, Or.inl ⟨c2, rfl⟩⟩, by rw [ht]; exact hP, hD⟩, hS.F ht⟩) hS.2.2 dX2_fails_34
set_option maxHeartbeats 4000000 in
set_option maxRecDepth 100000 in
theorem c_X2_outside (l : Launch) (v lo hi : Int32) : Met l yX2_outside wsX2_outside ({ frames := 0, cells := 0, slots := 0, locals := 0 }) (va_Pc [.int v, .int lo, .int hi] (fun _ => True)) (vp_Si (fun r => (r = 1 ∧ (v < lo ∨ hi < v)) ∨ (r = 0 ∧ ¬ v < lo ∧ ¬ hi < v))) 0 0 (fun _ => False) := by
  refine Met.ofW (cc := cX2_outside) (maxL := 3) (ret := (some .boolean)) (by decide) rfl ?_
  intro p e s m args below meth c s₁ B hml hv
  obtain ⟨rfl, -⟩ := hv
  have hx := B.exec
  have hb := B.bytes
  have hr := B.returns
  have hts := atoms_spec (ws := wsX2_outside) B.pre
  have hown : s.vm.findClass RX2 = some m.cls := findClass_of_methodNamed B.named
  have hlocks := B.notSynchronized
  have hl := lv_entry ([.int v, .int lo, .int hi]) (n := 3) (Nat.le_of_ble_eq_true rfl)
  rw [lg_entry_eq]
  generalize (lg_sl ([.int v, .int lo, .int hi]) ++ List.replicate (3 - (lg_sl ([.int v, .int lo, .int hi])).length) Slot.unset).toArray = ls at hl ⊢
  have hl : lv_has ls 3 [(0, .int v), (1, .int lo), (2, .int hi)] := hl
  refine lv_iload_n hx hb dX2_outside_0 rfl (lv_at hl 0 rfl) ?_
  refine lv_iload_n hx hb dX2_outside_1 rfl (lv_at hl 1 rfl) ?_
  refine lv_icmp_lt (tgt := 10) hx hb dX2_outside_2 (by decide) (fun c2 => ?_) (fun c2 => ?_)
  · skip
    refine lv_iconst (v := 1) hx hb dX2_outside_10 (by decide) ?_
    refine lv_goto (tgt := 15) hx hb dX2_outside_11 (by decide) ?_
    exact W.zret (v := 1) hx hb hr rfl (fun t ht _ => ⟨_, rfl, Or.inl ⟨rfl, Or.inl c2⟩, ht⟩) (fun _ h => nomatch h) dX2_outside_15
  · skip
    refine lv_iload_n hx hb dX2_outside_5 rfl (lv_at hl 0 rfl) ?_
    refine lv_iload_n hx hb dX2_outside_6 rfl (lv_at hl 2 rfl) ?_
    refine lv_icmp_le (tgt := 14) hx hb dX2_outside_7 (by decide) (fun c7 => ?_) (fun c7 => ?_)
    · skip
      refine lv_iconst (v := 0) hx hb dX2_outside_14 (by decide) ?_
      exact W.zret (v := 0) hx hb hr rfl (fun t ht _ => ⟨_, rfl, Or.inr ⟨rfl, c2, Int32.not_lt.mpr c7⟩, ht⟩) (fun _ h => nomatch h) dX2_outside_15
    · skip
      refine lv_iconst (v := 1) hx hb dX2_outside_10 (by decide) ?_
      refine lv_goto (tgt := 15) hx hb dX2_outside_11 (by decide) ?_
      exact W.zret (v := 1) hx hb hr rfl (fun t ht _ => ⟨_, rfl, Or.inl ⟨rfl, Or.inr (Int32.not_le.mp c7)⟩, ht⟩) (fun _ h => nomatch h) dX2_outside_15
set_option maxHeartbeats 4000000 in
set_option maxRecDepth 100000 in
theorem c_X2_noHook (l : Launch) (x : Int32) : Met l yX2_noHook wsX2_noHook ({ frames := 1, cells := 0, slots := 0, locals := 22 }) (va_Pc [.int x] (fun _ => True)) (vp_Si (fun r => (r = 1 ∧ badH x) ∨ (r = 0 ∧ ∃ j, j < 8 ∧ x = nI j))) 0 0 (fun _ => False) := by
  refine Met.ofW (cc := cX2_noHook) (maxL := 1) (ret := (some .boolean)) (by decide) rfl ?_
  intro p e s m args below meth c s₁ B hml hv
  obtain ⟨rfl, -⟩ := hv
  have hx := B.exec
  have hb := B.bytes
  have hr := B.returns
  have hts := atoms_spec (ws := wsX2_noHook) B.pre
  have hown : s.vm.findClass RX2 = some m.cls := findClass_of_methodNamed B.named
  have hlocks := B.notSynchronized
  have hl := lv_entry ([.int x]) (n := 1) (Nat.le_of_ble_eq_true rfl)
  rw [lg_entry_eq]
  generalize (lg_sl ([.int x]) ++ List.replicate (1 - (lg_sl ([.int x])).length) Slot.unset).toArray = ls at hl ⊢
  have hl : lv_has ls 1 [(0, .int x)] := hl
  refine lv_iload_n hx hb dX2_noHook_0 rfl (lv_at hl 0 rfl) ?_
  refine lv_iconst (v := 0) hx hb dX2_noHook_1 (by decide) ?_
  refine lv_bipush (v := 7) hx hb dX2_noHook_2 (by decide) ?_
  refine vp_callSi (W.runS (As := [.int x, .int 0, .int 7]) (rest := []) ⟨hx, hb, hml, hown, hts⟩ (c_X2_outside l x 0 7 ) (va_cwS 3 hts gX2_noHook_X2_outside rfl rfl rfl (by decide +kernel) ⟨Nat.le_of_ble_eq_true rfl, Nat.le_of_ble_eq_true rfl⟩) ⟨fb0, fun U hU hW => ⟨rfl, trivial⟩⟩ rfl rfl hl.1 rfl (lv_room (Nat.le_of_ble_eq_true rfl)) dX2_noHook_4 ⟨Nat.le_of_ble_eq_true rfl, Nat.le_of_ble_eq_true rfl⟩) (fun r4 hw4 => ?_)
  rcases hw4 with ⟨rfl, h4⟩ | ⟨rfl, h4⟩
  · skip
    exact W.zret (v := 1) hx hb hr rfl (fun t ht _ => ⟨_, rfl, Or.inl ⟨rfl, out7_y h4⟩, ht⟩) (fun _ h => nomatch h) dX2_noHook_7
  · skip
    exact W.zret (v := 0) hx hb hr rfl (fun t ht _ => ⟨_, rfl, Or.inr ⟨rfl, out7_n h4⟩, ht⟩) (fun _ h => nomatch h) dX2_noHook_7
set_option maxHeartbeats 4000000 in
set_option maxRecDepth 100000 in
theorem c_X2_noPerson (l : Launch) (D : va_G) (ci : Nat → ClassId) (ad : Nat → Nat) (z : Nat) (F : va_W) (th : Int32) (hd : Nat → Int32) (mk : Nat → Int32) (sz : Nat → Int32) (ce : Nat → Int64) (as : Nat → Int64) (np : Nat) (kd : Nat → Int32) (pu : Nat → Int64) (x : Int32) (hN : np ≤ 60) : Met l yX2_noPerson wsX2_noPerson ({ frames := 1, cells := 0, slots := 0, locals := 22 }) (va_Pc [.ref (ad 30), .int x] (fun U => WD D ci ad z (wM ci ad th hd mk sz ce as np kd pu ++ F) U)) (vp_Si (fun r => (r = 1 ∧ (x < 0 ∨ nI np ≤ x)) ∨ (r = 0 ∧ ∃ k, k < np ∧ x = nI k))) 0 0 (fun _ => False) := by
  refine Met.ofW (cc := cX2_noPerson) (maxL := 2) (ret := (some .boolean)) (by decide) rfl ?_
  intro p e s m args below meth c s₁ B hml hv
  obtain ⟨rfl, hP, hD, hK, hE⟩ := hv
  have hx := B.exec
  have hb := B.bytes
  have hr := B.returns
  have hts := atoms_spec (ws := wsX2_noPerson) B.pre
  have hown : s.vm.findClass RX2 = some m.cls := findClass_of_methodNamed B.named
  have hlocks := B.notSynchronized
  have hS : va_S (LA z) s.heap s.heap [] := va_S.rf
  have hin2 : ∀ w ∈ wsX20, w ∈ wsX2_noPerson := by decide +kernel
  have hl := lv_entry ([.ref (ad 30), .int x]) (n := 2) (Nat.le_of_ble_eq_true rfl)
  rw [lg_entry_eq]
  generalize (lg_sl ([.ref (ad 30), .int x]) ++ List.replicate (2 - (lg_sl ([.ref (ad 30), .int x])).length) Slot.unset).toArray = ls at hl ⊢
  have hl : lv_has ls 2 [(0, .ref (ad 30)), (1, .int x)] := hl
  refine lv_iload_n hx hb dX2_noPerson_0 rfl (lv_at hl 1 rfl) ?_
  refine lv_iconst (v := 0) hx hb dX2_noPerson_1 (by decide) ?_
  refine lv_aload_n hx hb dX2_noPerson_2 rfl (lv_at hl 0 rfl) ?_
  refine va_get (D := D) (ci := 2) (C := RX2) (T := TX2) (N := 9) hx hb hts hin2 hown hK hP 0 rfl rfl 6 (by decide) (hts (.fieldLink RX2 40 "DutyRotaModel" "persons" "I") (by decide +kernel)) (fun _ h9 => h9) rfl dX2_noPerson_3 ?_
  refine lv_iconst (v := 1) hx hb dX2_noPerson_6 (by decide) ?_
  refine lv_isub hx hb dX2_noPerson_7 ?_
  refine vp_callSi (W.runS (As := [.int x, .int 0, .int ((nI np) - 1)]) (rest := []) ⟨hx, hb, hml, hown, hts⟩ (c_X2_outside l x 0 ((nI np) - 1) ) (va_cwS 3 hts gX2_noPerson_X2_outside rfl rfl rfl (by decide +kernel) ⟨Nat.le_of_ble_eq_true rfl, Nat.le_of_ble_eq_true rfl⟩) ⟨fb0, fun U hU hW => ⟨rfl, trivial⟩⟩ rfl rfl hl.1 rfl (lv_room (Nat.le_of_ble_eq_true rfl)) dX2_noPerson_8 ⟨Nat.le_of_ble_eq_true rfl, Nat.le_of_ble_eq_true rfl⟩) (fun r8 hw8 => ?_)
  rcases hw8 with ⟨rfl, h8⟩ | ⟨rfl, h8⟩
  · skip
    exact W.zret (v := 1) hx hb hr rfl (fun t ht _ => ⟨_, rfl, Or.inl ⟨rfl, out_y hN h8⟩, ht⟩) (fun _ h => nomatch h) dX2_noPerson_11
  · skip
    exact W.zret (v := 0) hx hb hr rfl (fun t ht _ => ⟨_, rfl, Or.inr ⟨rfl, out_n hN h8⟩, ht⟩) (fun _ h => nomatch h) dX2_noPerson_11
set_option maxHeartbeats 4000000 in
set_option maxRecDepth 100000 in
theorem c_X2_makeOf (l : Launch) (D : va_G) (ci : Nat → ClassId) (ad : Nat → Nat) (z : Nat) (F : va_W) (th : Int32) (hd : Nat → Int32) (mk : Nat → Int32) (sz : Nat → Int32) (ce : Nat → Int64) (as : Nat → Int64) (np : Nat) (kd : Nat → Int32) (pu : Nat → Int64) (Hg Z : Nat → Nat) (x : Int32) (j : Nat) (hH : hOK hd Hg) (hZ : zOK sz Z) (hj : j < 8) (ex : x = nI j) : Met l yX2_makeOf wsX2_makeOf ({ frames := 0, cells := 0, slots := 0, locals := 0 }) (va_Pc [.ref (ad 30), .int x] (fun U => WD D ci ad z (wM ci ad th hd mk sz ce as np kd pu ++ F) U)) (vp_Si (fun r => r = mV mk (Hg j))) 0 0 (fun _ => False) := by
  refine Met.ofW (cc := cX2_makeOf) (maxL := 2) (ret := (some .int)) (by decide) rfl ?_
  intro p e s m args below meth c s₁ B hml hv
  obtain ⟨rfl, hP, hD, hK, hE⟩ := hv
  have hx := B.exec
  have hb := B.bytes
  have hr := B.returns
  have hts := atoms_spec (ws := wsX2_makeOf) B.pre
  have hown : s.vm.findClass RX2 = some m.cls := findClass_of_methodNamed B.named
  have hlocks := B.notSynchronized
  have hS : va_S (LA z) s.heap s.heap [] := va_S.rf
  have hin2 : ∀ w ∈ wsX20, w ∈ wsX2_makeOf := by decide +kernel
  have hl := lv_entry ([.ref (ad 30), .int x]) (n := 2) (Nat.le_of_ble_eq_true rfl)
  rw [lg_entry_eq]
  generalize (lg_sl ([.ref (ad 30), .int x]) ++ List.replicate (2 - (lg_sl ([.ref (ad 30), .int x])).length) Slot.unset).toArray = ls at hl ⊢
  have hl : lv_has ls 2 [(0, .ref (ad 30)), (1, .int x)] := hl
  refine lv_aload_n hx hb dX2_makeOf_0 rfl (lv_at hl 0 rfl) ?_
  refine va_get (D := D) (ci := 2) (C := RX2) (T := TX2) (N := 9) hx hb hts hin2 hown hK hP 0 rfl rfl 1 (by decide) (hts (.fieldLink RX2 9 "DutyRotaModel" "held" "[I") (by decide +kernel)) (fun _ h9 => h9) rfl dX2_makeOf_1 ?_
  refine lv_iload_n hx hb dX2_makeOf_4 rfl (lv_at hl 1 rfl) ?_
  refine rw_ild hx hb hK hP 1 0 rfl rfl (j := j) (ex) (hj) (by decide) dX2_makeOf_5 ?_
  refine lv_iconst (v := -1) hx hb dX2_makeOf_6 (by decide) ?_
  refine lv_icmp_ne (tgt := 15) hx hb dX2_makeOf_7 (by decide) (fun c7 => ?_) (fun c7 => ?_)
  · skip
    have hq9 := hd_t hH hj c7
    refine lv_aload_n hx hb dX2_makeOf_15 rfl (lv_at hl 0 rfl) ?_
    refine va_get (D := D) (ci := 2) (C := RX2) (T := TX2) (N := 9) hx hb hts hin2 hown hK hP 0 rfl rfl 2 (by decide) (hts (.fieldLink RX2 13 "DutyRotaModel" "makes" "[I") (by decide +kernel)) (fun _ h9 => h9) rfl dX2_makeOf_16 ?_
    refine lv_aload_n hx hb dX2_makeOf_19 rfl (lv_at hl 0 rfl) ?_
    refine va_get (D := D) (ci := 2) (C := RX2) (T := TX2) (N := 9) hx hb hts hin2 hown hK hP 0 rfl rfl 1 (by decide) (hts (.fieldLink RX2 9 "DutyRotaModel" "held" "[I") (by decide +kernel)) (fun _ h9 => h9) rfl dX2_makeOf_20 ?_
    refine lv_iload_n hx hb dX2_makeOf_23 rfl (lv_at hl 1 rfl) ?_
    refine rw_ild hx hb hK hP 1 0 rfl rfl (j := j) (ex) (hj) (by decide) dX2_makeOf_24 ?_
    refine rw_ild hx hb hK hP 2 0 rfl rfl (j := (Hg j)) (hq9.2) (hq9.1) (by decide) dX2_makeOf_25 ?_
    exact W.iret (v := (mk (Hg j))) hx hb hr (fun t ht _ => ⟨_, rfl, (mV_t hq9.1).symm, ht⟩) (fun _ h => nomatch h) dX2_makeOf_26
  · skip
    have hq9 := hd_m1 hH hj c7
    refine lv_bipush (v := 6) hx hb dX2_makeOf_10 (by decide) ?_
    refine lv_goto (tgt := 26) hx hb dX2_makeOf_12 (by decide) ?_
    exact W.iret (v := 6) hx hb hr (fun t ht _ => ⟨_, rfl, (mV_9 hq9).symm, ht⟩) (fun _ h => nomatch h) dX2_makeOf_26
set_option maxHeartbeats 4000000 in
set_option maxRecDepth 100000 in
theorem c_X2_isRow (l : Launch) (x : Int32) : Met l yX2_isRow wsX2_isRow ({ frames := 0, cells := 0, slots := 0, locals := 0 }) (va_Pc [.int x] (fun _ => True)) (vp_Si (fun r => (r = 1 ∧ x ≤ 4) ∨ (r = 0 ∧ ¬ x ≤ 4))) 0 0 (fun _ => False) := by
  refine Met.ofW (cc := cX2_isRow) (maxL := 1) (ret := (some .boolean)) (by decide) rfl ?_
  intro p e s m args below meth c s₁ B hml hv
  obtain ⟨rfl, -⟩ := hv
  have hx := B.exec
  have hb := B.bytes
  have hr := B.returns
  have hts := atoms_spec (ws := wsX2_isRow) B.pre
  have hown : s.vm.findClass RX2 = some m.cls := findClass_of_methodNamed B.named
  have hlocks := B.notSynchronized
  have hl := lv_entry ([.int x]) (n := 1) (Nat.le_of_ble_eq_true rfl)
  rw [lg_entry_eq]
  generalize (lg_sl ([.int x]) ++ List.replicate (1 - (lg_sl ([.int x])).length) Slot.unset).toArray = ls at hl ⊢
  have hl : lv_has ls 1 [(0, .int x)] := hl
  refine lv_iload_n hx hb dX2_isRow_0 rfl (lv_at hl 0 rfl) ?_
  refine lv_iconst (v := 4) hx hb dX2_isRow_1 (by decide) ?_
  refine lv_icmp_gt (tgt := 9) hx hb dX2_isRow_2 (by decide) (fun c2 => ?_) (fun c2 => ?_)
  · skip
    refine lv_iconst (v := 0) hx hb dX2_isRow_9 (by decide) ?_
    exact W.zret (v := 0) hx hb hr rfl (fun t ht _ => ⟨_, rfl, Or.inr ⟨rfl, Int32.not_le.mpr c2⟩, ht⟩) (fun _ h => nomatch h) dX2_isRow_10
  · skip
    refine lv_iconst (v := 1) hx hb dX2_isRow_5 (by decide) ?_
    refine lv_goto (tgt := 10) hx hb dX2_isRow_6 (by decide) ?_
    exact W.zret (v := 1) hx hb hr rfl (fun t ht _ => ⟨_, rfl, Or.inl ⟨rfl, Int32.not_lt.mp c2⟩, ht⟩) (fun _ h => nomatch h) dX2_isRow_10
set_option maxHeartbeats 4000000 in
set_option maxRecDepth 100000 in
theorem c_X2_isRoster (l : Launch) (x : Int32) : Met l yX2_isRoster wsX2_isRoster ({ frames := 0, cells := 0, slots := 0, locals := 0 }) (va_Pc [.int x] (fun _ => True)) (vp_Si (fun r => (r = 1 ∧ x ≤ 2) ∨ (r = 0 ∧ ¬ x ≤ 2))) 0 0 (fun _ => False) := by
  refine Met.ofW (cc := cX2_isRoster) (maxL := 1) (ret := (some .boolean)) (by decide) rfl ?_
  intro p e s m args below meth c s₁ B hml hv
  obtain ⟨rfl, -⟩ := hv
  have hx := B.exec
  have hb := B.bytes
  have hr := B.returns
  have hts := atoms_spec (ws := wsX2_isRoster) B.pre
  have hown : s.vm.findClass RX2 = some m.cls := findClass_of_methodNamed B.named
  have hlocks := B.notSynchronized
  have hl := lv_entry ([.int x]) (n := 1) (Nat.le_of_ble_eq_true rfl)
  rw [lg_entry_eq]
  generalize (lg_sl ([.int x]) ++ List.replicate (1 - (lg_sl ([.int x])).length) Slot.unset).toArray = ls at hl ⊢
  have hl : lv_has ls 1 [(0, .int x)] := hl
  refine lv_iload_n hx hb dX2_isRoster_0 rfl (lv_at hl 0 rfl) ?_
  refine lv_iconst (v := 2) hx hb dX2_isRoster_1 (by decide) ?_
  refine lv_icmp_gt (tgt := 9) hx hb dX2_isRoster_2 (by decide) (fun c2 => ?_) (fun c2 => ?_)
  · skip
    refine lv_iconst (v := 0) hx hb dX2_isRoster_9 (by decide) ?_
    exact W.zret (v := 0) hx hb hr rfl (fun t ht _ => ⟨_, rfl, Or.inr ⟨rfl, Int32.not_le.mpr c2⟩, ht⟩) (fun _ h => nomatch h) dX2_isRoster_10
  · skip
    refine lv_iconst (v := 1) hx hb dX2_isRoster_5 (by decide) ?_
    refine lv_goto (tgt := 10) hx hb dX2_isRoster_6 (by decide) ?_
    exact W.zret (v := 1) hx hb hr rfl (fun t ht _ => ⟨_, rfl, Or.inl ⟨rfl, Int32.not_lt.mp c2⟩, ht⟩) (fun _ h => nomatch h) dX2_isRoster_10
set_option maxHeartbeats 4000000 in
set_option maxRecDepth 100000 in
theorem c_X2_sizeOf (l : Launch) (D : va_G) (ci : Nat → ClassId) (ad : Nat → Nat) (z : Nat) (F : va_W) (th : Int32) (hd : Nat → Int32) (mk : Nat → Int32) (sz : Nat → Int32) (ce : Nat → Int64) (as : Nat → Int64) (np : Nat) (kd : Nat → Int32) (pu : Nat → Int64) (Hg Z : Nat → Nat) (x : Int32) (j : Nat) (hH : hOK hd Hg) (hZ : zOK sz Z) (hj : j < 8) (ex : x = nI j) : Met l yX2_sizeOf wsX2_sizeOf ({ frames := 1, cells := 0, slots := 0, locals := 21 }) (va_Pc [.ref (ad 30), .int x] (fun U => WD D ci ad z (wM ci ad th hd mk sz ce as np kd pu ++ F) U)) (vp_Si (fun r => r = nI (sV mk Z (Hg j)))) 0 0 (fun _ => False) := by
  refine Met.ofW (cc := cX2_sizeOf) (maxL := 2) (ret := (some .int)) (by decide) rfl ?_
  intro p e s m args below meth c s₁ B hml hv
  obtain ⟨rfl, hP, hD, hK, hE⟩ := hv
  have hx := B.exec
  have hb := B.bytes
  have hr := B.returns
  have hts := atoms_spec (ws := wsX2_sizeOf) B.pre
  have hown : s.vm.findClass RX2 = some m.cls := findClass_of_methodNamed B.named
  have hlocks := B.notSynchronized
  have hS : va_S (LA z) s.heap s.heap [] := va_S.rf
  have hin2 : ∀ w ∈ wsX20, w ∈ wsX2_sizeOf := by decide +kernel
  have hl := lv_entry ([.ref (ad 30), .int x]) (n := 2) (Nat.le_of_ble_eq_true rfl)
  rw [lg_entry_eq]
  generalize (lg_sl ([.ref (ad 30), .int x]) ++ List.replicate (2 - (lg_sl ([.ref (ad 30), .int x])).length) Slot.unset).toArray = ls at hl ⊢
  have hl : lv_has ls 2 [(0, .ref (ad 30)), (1, .int x)] := hl
  refine lv_aload_n hx hb dX2_sizeOf_0 rfl (lv_at hl 0 rfl) ?_
  refine lv_iload_n hx hb dX2_sizeOf_1 rfl (lv_at hl 1 rfl) ?_
  refine vp_callSi (W.runV (As := [.int x]) (rest := []) ⟨hx, hb, hml, hown, hts⟩ (c_X2_makeOf l D ci ad z F th hd mk sz ce as np kd pu Hg Z x j hH hZ hj ex) (cwV 1 hts gX2_sizeOf_X2_makeOf rfl rfl rfl (by decide +kernel) ⟨Nat.le_of_ble_eq_true rfl, Nat.le_of_ble_eq_true rfl⟩) ⟨WD.fb, (va_recv hK hP (ci := 2) (q0 := 0) rfl rfl), fun U hU hW => ⟨rfl, WD.call hP hD hK hE hS hU hW⟩⟩ rfl rfl hl.1 rfl (lv_room (Nat.le_of_ble_eq_true rfl)) dX2_sizeOf_2 ⟨Nat.le_of_ble_eq_true rfl, Nat.le_of_ble_eq_true rfl⟩) (fun r2 hw2 => ?_)
  subst hw2
  refine vp_callSi (W.runS (As := [.int (mV mk (Hg j))]) (rest := []) ⟨hx, hb, hml, hown, hts⟩ (c_X2_isRow l (mV mk (Hg j)) ) (va_cwS 1 hts gX2_sizeOf_X2_isRow rfl rfl rfl (by decide +kernel) ⟨Nat.le_of_ble_eq_true rfl, Nat.le_of_ble_eq_true rfl⟩) ⟨fb0, fun U hU hW => ⟨rfl, trivial⟩⟩ rfl rfl hl.1 rfl (lv_room (Nat.le_of_ble_eq_true rfl)) dX2_sizeOf_5 ⟨Nat.le_of_ble_eq_true rfl, Nat.le_of_ble_eq_true rfl⟩) (fun r5 hw5 => ?_)
  rcases hw5 with ⟨rfl, h5⟩ | ⟨rfl, h5⟩
  · skip
    refine lv_if_eq (tgt := 25) hx hb dX2_sizeOf_8 (by decide) (fun c8 => absurd c8 (by decide)) (fun c8 => ?_)
    refine lv_aload_n hx hb dX2_sizeOf_11 rfl (lv_at hl 0 rfl) ?_
    refine va_get (D := D) (ci := 2) (C := RX2) (T := TX2) (N := 9) hx hb hts hin2 hown hK hP 0 rfl rfl 3 (by decide) (hts (.fieldLink RX2 16 "DutyRotaModel" "sizes" "[I") (by decide +kernel)) (fun _ h9 => h9) rfl dX2_sizeOf_12 ?_
    refine lv_aload_n hx hb dX2_sizeOf_15 rfl (lv_at hl 0 rfl) ?_
    refine va_get (D := D) (ci := 2) (C := RX2) (T := TX2) (N := 9) hx hb hts hin2 hown hK hP 0 rfl rfl 1 (by decide) (hts (.fieldLink RX2 9 "DutyRotaModel" "held" "[I") (by decide +kernel)) (fun _ h9 => h9) rfl dX2_sizeOf_16 ?_
    refine lv_iload_n hx hb dX2_sizeOf_19 rfl (lv_at hl 1 rfl) ?_
    refine rw_ild hx hb hK hP 1 0 rfl rfl (j := j) (ex) (hj) (by decide) dX2_sizeOf_20 ?_
    have hq9 := hd_9 hH hj (mV_n4 h5)
    refine rw_ild hx hb hK hP 3 0 rfl rfl (j := (Hg j)) (hq9.2) (hq9.1) (by decide) dX2_sizeOf_21 ?_
    refine lv_goto (tgt := 26) hx hb dX2_sizeOf_22 (by decide) ?_
    exact W.iret (v := (sz (Hg j))) hx hb hr (fun t ht _ => ⟨_, rfl, by rw [(hZ _ hq9.1).1, sV_t h5], ht⟩) (fun _ h => nomatch h) dX2_sizeOf_26
  · skip
    refine lv_if_eq (tgt := 25) hx hb dX2_sizeOf_8 (by decide) (fun c8 => ?_) (fun c8 => absurd c8 (by decide))
    refine lv_iconst (v := 0) hx hb dX2_sizeOf_25 (by decide) ?_
    exact W.iret (v := 0) hx hb hr (fun t ht _ => ⟨_, rfl, by rw [sV_0 h5]; rfl, ht⟩) (fun _ h => nomatch h) dX2_sizeOf_26
set_option maxHeartbeats 4000000 in
set_option maxRecDepth 100000 in
theorem c_X2_areAlike (l : Launch) (x y : Int32) : Met l yX2_areAlike wsX2_areAlike ({ frames := 1, cells := 0, slots := 0, locals := 20 }) (va_Pc [.int x, .int y] (fun _ => True)) (vp_Si (fun r => (r = 1 ∧ al2 x y) ∨ (r = 0 ∧ ¬ al2 x y))) 0 0 (fun _ => False) := by
  refine Met.ofW (cc := cX2_areAlike) (maxL := 2) (ret := (some .boolean)) (by decide) rfl ?_
  intro p e s m args below meth c s₁ B hml hv
  obtain ⟨rfl, -⟩ := hv
  have hx := B.exec
  have hb := B.bytes
  have hr := B.returns
  have hts := atoms_spec (ws := wsX2_areAlike) B.pre
  have hown : s.vm.findClass RX2 = some m.cls := findClass_of_methodNamed B.named
  have hlocks := B.notSynchronized
  have hl := lv_entry ([.int x, .int y]) (n := 2) (Nat.le_of_ble_eq_true rfl)
  rw [lg_entry_eq]
  generalize (lg_sl ([.int x, .int y]) ++ List.replicate (2 - (lg_sl ([.int x, .int y])).length) Slot.unset).toArray = ls at hl ⊢
  have hl : lv_has ls 2 [(0, .int x), (1, .int y)] := hl
  refine lv_iload_n hx hb dX2_areAlike_0 rfl (lv_at hl 0 rfl) ?_
  refine vp_callSi (W.runS (As := [.int x]) (rest := []) ⟨hx, hb, hml, hown, hts⟩ (c_X2_isRoster l x ) (va_cwS 1 hts gX2_areAlike_X2_isRoster rfl rfl rfl (by decide +kernel) ⟨Nat.le_of_ble_eq_true rfl, Nat.le_of_ble_eq_true rfl⟩) ⟨fb0, fun U hU hW => ⟨rfl, trivial⟩⟩ rfl rfl hl.1 rfl (lv_room (Nat.le_of_ble_eq_true rfl)) dX2_areAlike_1 ⟨Nat.le_of_ble_eq_true rfl, Nat.le_of_ble_eq_true rfl⟩) (fun r1 hw1 => ?_)
  rcases hw1 with ⟨rfl, h1⟩ | ⟨rfl, h1⟩
  · skip
    refine lv_if_eq (tgt := 14) hx hb dX2_areAlike_4 (by decide) (fun c4 => absurd c4 (by decide)) (fun c4 => ?_)
    refine lv_iload_n hx hb dX2_areAlike_7 rfl (lv_at hl 1 rfl) ?_
    refine vp_callSi (W.runS (As := [.int y]) (rest := []) ⟨hx, hb, hml, hown, hts⟩ (c_X2_isRoster l y ) (va_cwS 1 hts gX2_areAlike_X2_isRoster rfl rfl rfl (by decide +kernel) ⟨Nat.le_of_ble_eq_true rfl, Nat.le_of_ble_eq_true rfl⟩) ⟨fb0, fun U hU hW => ⟨rfl, trivial⟩⟩ rfl rfl hl.1 rfl (lv_room (Nat.le_of_ble_eq_true rfl)) dX2_areAlike_8 ⟨Nat.le_of_ble_eq_true rfl, Nat.le_of_ble_eq_true rfl⟩) (fun r8 hw8 => ?_)
    rcases hw8 with ⟨rfl, h8⟩ | ⟨rfl, h8⟩
    · skip
      refine lv_if_ne (tgt := 19) hx hb dX2_areAlike_11 (by decide) (fun c11 => ?_) (fun c11 => absurd c11 (by decide))
      refine lv_iconst (v := 1) hx hb dX2_areAlike_19 (by decide) ?_
      refine lv_goto (tgt := 24) hx hb dX2_areAlike_20 (by decide) ?_
      exact W.zret (v := 1) hx hb hr rfl (fun t ht _ => ⟨_, rfl, Or.inl ⟨rfl, Or.inl ⟨h1, h8⟩⟩, ht⟩) (fun _ h => nomatch h) dX2_areAlike_24
    · skip
      refine lv_if_ne (tgt := 19) hx hb dX2_areAlike_11 (by decide) (fun c11 => absurd c11 (by decide)) (fun c11 => ?_)
      refine lv_iload_n hx hb dX2_areAlike_14 rfl (lv_at hl 0 rfl) ?_
      refine lv_iload_n hx hb dX2_areAlike_15 rfl (lv_at hl 1 rfl) ?_
      refine lv_icmp_ne (tgt := 23) hx hb dX2_areAlike_16 (by decide) (fun c16 => ?_) (fun c16 => ?_)
      · skip
        refine lv_iconst (v := 0) hx hb dX2_areAlike_23 (by decide) ?_
        exact W.zret (v := 0) hx hb hr rfl (fun t ht _ => ⟨_, rfl, Or.inr ⟨rfl, fun h => h.elim (fun q => h8 q.2) c16⟩, ht⟩) (fun _ h => nomatch h) dX2_areAlike_24
      · skip
        refine lv_iconst (v := 1) hx hb dX2_areAlike_19 (by decide) ?_
        refine lv_goto (tgt := 24) hx hb dX2_areAlike_20 (by decide) ?_
        exact W.zret (v := 1) hx hb hr rfl (fun t ht _ => ⟨_, rfl, Or.inl ⟨rfl, Or.inr c16⟩, ht⟩) (fun _ h => nomatch h) dX2_areAlike_24
  · skip
    refine lv_if_eq (tgt := 14) hx hb dX2_areAlike_4 (by decide) (fun c4 => ?_) (fun c4 => absurd c4 (by decide))
    refine lv_iload_n hx hb dX2_areAlike_14 rfl (lv_at hl 0 rfl) ?_
    refine lv_iload_n hx hb dX2_areAlike_15 rfl (lv_at hl 1 rfl) ?_
    refine lv_icmp_ne (tgt := 23) hx hb dX2_areAlike_16 (by decide) (fun c16 => ?_) (fun c16 => ?_)
    · skip
      refine lv_iconst (v := 0) hx hb dX2_areAlike_23 (by decide) ?_
      exact W.zret (v := 0) hx hb hr rfl (fun t ht _ => ⟨_, rfl, Or.inr ⟨rfl, fun h => h.elim (fun q => h1 q.1) c16⟩, ht⟩) (fun _ h => nomatch h) dX2_areAlike_24
    · skip
      refine lv_iconst (v := 1) hx hb dX2_areAlike_19 (by decide) ?_
      refine lv_goto (tgt := 24) hx hb dX2_areAlike_20 (by decide) ?_
      exact W.zret (v := 1) hx hb hr rfl (fun t ht _ => ⟨_, rfl, Or.inl ⟨rfl, Or.inr c16⟩, ht⟩) (fun _ h => nomatch h) dX2_areAlike_24
set_option maxHeartbeats 4000000 in
set_option maxRecDepth 100000 in
theorem c_X2_blank (l : Launch) (x : Int32) : Met l yX2_blank wsX2_blank ({ frames := 1, cells := 0, slots := 0, locals := 20 }) (va_Pc [.int x] (fun _ => True)) (vp_Sl (fun r => r = blankV x)) 0 0 (fun _ => False) := by
  refine Met.ofW (cc := cX2_blank) (maxL := 1) (ret := (some .long)) (by decide) rfl ?_
  intro p e s m args below meth c s₁ B hml hv
  obtain ⟨rfl, -⟩ := hv
  have hx := B.exec
  have hb := B.bytes
  have hr := B.returns
  have hts := atoms_spec (ws := wsX2_blank) B.pre
  have hown : s.vm.findClass RX2 = some m.cls := findClass_of_methodNamed B.named
  have hlocks := B.notSynchronized
  have hl := lv_entry ([.int x]) (n := 1) (Nat.le_of_ble_eq_true rfl)
  rw [lg_entry_eq]
  generalize (lg_sl ([.int x]) ++ List.replicate (1 - (lg_sl ([.int x])).length) Slot.unset).toArray = ls at hl ⊢
  have hl : lv_has ls 1 [(0, .int x)] := hl
  refine lv_iload_n hx hb dX2_blank_0 rfl (lv_at hl 0 rfl) ?_
  refine vp_callSi (W.runS (As := [.int x]) (rest := []) ⟨hx, hb, hml, hown, hts⟩ (c_X2_isRoster l x ) (va_cwS 1 hts gX2_blank_X2_isRoster rfl rfl rfl (by decide +kernel) ⟨Nat.le_of_ble_eq_true rfl, Nat.le_of_ble_eq_true rfl⟩) ⟨fb0, fun U hU hW => ⟨rfl, trivial⟩⟩ rfl rfl hl.1 rfl (lv_room (Nat.le_of_ble_eq_true rfl)) dX2_blank_1 ⟨Nat.le_of_ble_eq_true rfl, Nat.le_of_ble_eq_true rfl⟩) (fun r1 hw1 => ?_)
  rcases hw1 with ⟨rfl, h1⟩ | ⟨rfl, h1⟩
  · skip
    refine lv_if_eq (tgt := 13) hx hb dX2_blank_4 (by decide) (fun c4 => absurd c4 (by decide)) (fun c4 => ?_)
    refine lv_ldc2 hx hb hown (hts (.constantLong RX2 54 (-1)) (by decide +kernel)) dX2_blank_7 ?_
    refine lv_goto (tgt := 14) hx hb dX2_blank_10 (by decide) ?_
    exact W.lret (v := (-1)) hx hb hr (fun t ht _ => ⟨_, rfl, blankV_t h1, ht⟩) (fun _ h => nomatch h) dX2_blank_14
  · skip
    refine lv_if_eq (tgt := 13) hx hb dX2_blank_4 (by decide) (fun c4 => ?_) (fun c4 => absurd c4 (by decide))
    refine lv_lconst (v := 0) hx hb dX2_blank_13 (by decide) ?_
    exact W.lret (v := 0) hx hb hr (fun t ht _ => ⟨_, rfl, blankV_f h1, ht⟩) (fun _ h => nomatch h) dX2_blank_14
set_option maxHeartbeats 4000000 in
set_option maxRecDepth 100000 in
theorem c_X2_takes (l : Launch) (x y : Int32) : Met l yX2_takes wsX2_takes ({ frames := 0, cells := 0, slots := 0, locals := 0 }) (va_Pc [.int x, .int y] (fun _ => True)) (vp_Si (fun r => (r = 1 ∧ ¬ tkm x y) ∨ (r = 0 ∧ tkm x y))) 0 0 (fun _ => False) := by
  refine Met.ofW (cc := cX2_takes) (maxL := 2) (ret := (some .boolean)) (by decide) rfl ?_
  intro p e s m args below meth c s₁ B hml hv
  obtain ⟨rfl, -⟩ := hv
  have hx := B.exec
  have hb := B.bytes
  have hr := B.returns
  have hts := atoms_spec (ws := wsX2_takes) B.pre
  have hown : s.vm.findClass RX2 = some m.cls := findClass_of_methodNamed B.named
  have hlocks := B.notSynchronized
  have hl := lv_entry ([.int x, .int y]) (n := 2) (Nat.le_of_ble_eq_true rfl)
  rw [lg_entry_eq]
  generalize (lg_sl ([.int x, .int y]) ++ List.replicate (2 - (lg_sl ([.int x, .int y])).length) Slot.unset).toArray = ls at hl ⊢
  have hl : lv_has ls 2 [(0, .int x), (1, .int y)] := hl
  refine lv_iload_n hx hb dX2_takes_0 rfl (lv_at hl 0 rfl) ?_
  refine lv_iconst (v := 1) hx hb dX2_takes_1 (by decide) ?_
  refine lv_icmp_ne (tgt := 15) hx hb dX2_takes_2 (by decide) (fun c2 => ?_) (fun c2 => ?_)
  · skip
    refine lv_iload_n hx hb dX2_takes_15 rfl (lv_at hl 0 rfl) ?_
    refine lv_iconst (v := 2) hx hb dX2_takes_16 (by decide) ?_
    refine lv_icmp_ne (tgt := 31) hx hb dX2_takes_17 (by decide) (fun c17 => ?_) (fun c17 => ?_)
    · skip
      refine lv_iconst (v := 1) hx hb dX2_takes_31 (by decide) ?_
      exact W.zret (v := 1) hx hb hr rfl (fun t ht _ => ⟨_, rfl, Or.inl ⟨rfl, fun h => h.elim (fun q => c2 q.1) (fun q => c17 q.1)⟩, ht⟩) (fun _ h => nomatch h) dX2_takes_32
    · skip
      refine lv_iload_n hx hb dX2_takes_20 rfl (lv_at hl 1 rfl) ?_
      refine lv_iconst (v := 1) hx hb dX2_takes_21 (by decide) ?_
      refine lv_icmp_ne (tgt := 29) hx hb dX2_takes_22 (by decide) (fun c22 => ?_) (fun c22 => ?_)
      · skip
        refine lv_iconst (v := 0) hx hb dX2_takes_29 (by decide) ?_
        exact W.zret (v := 0) hx hb hr rfl (fun t ht _ => ⟨_, rfl, Or.inr ⟨rfl, Or.inr ⟨c17, c22⟩⟩, ht⟩) (fun _ h => nomatch h) dX2_takes_30
      · skip
        refine lv_iconst (v := 1) hx hb dX2_takes_25 (by decide) ?_
        refine lv_goto (tgt := 30) hx hb dX2_takes_26 (by decide) ?_
        exact W.zret (v := 1) hx hb hr rfl (fun t ht _ => ⟨_, rfl, Or.inl ⟨rfl, fun h => h.elim (fun q => c2 q.1) (fun q => q.2 c22)⟩, ht⟩) (fun _ h => nomatch h) dX2_takes_30
  · skip
    refine lv_iload_n hx hb dX2_takes_5 rfl (lv_at hl 1 rfl) ?_
    refine lv_if_ne (tgt := 13) hx hb dX2_takes_6 (by decide) (fun c6 => ?_) (fun c6 => ?_)
    · skip
      refine lv_iconst (v := 0) hx hb dX2_takes_13 (by decide) ?_
      exact W.zret (v := 0) hx hb hr rfl (fun t ht _ => ⟨_, rfl, Or.inr ⟨rfl, Or.inl ⟨c2, c6⟩⟩, ht⟩) (fun _ h => nomatch h) dX2_takes_14
    · skip
      refine lv_iconst (v := 1) hx hb dX2_takes_9 (by decide) ?_
      refine lv_goto (tgt := 14) hx hb dX2_takes_10 (by decide) ?_
      exact W.zret (v := 1) hx hb hr rfl (fun t ht _ => ⟨_, rfl, Or.inl ⟨rfl, fun h => h.elim (fun q => q.2 c6) (fun q => absurd (c2.symm.trans q.1) (by decide))⟩, ht⟩) (fun _ h => nomatch h) dX2_takes_14
set_option maxHeartbeats 4000000 in
set_option maxRecDepth 100000 in
theorem c_X2_mayStand (l : Launch) (D : va_G) (ci : Nat → ClassId) (ad : Nat → Nat) (z : Nat) (F : va_W) (th : Int32) (hd : Nat → Int32) (mk : Nat → Int32) (sz : Nat → Int32) (ce : Nat → Int64) (as : Nat → Int64) (np : Nat) (kd : Nat → Int32) (pu : Nat → Int64) (x : Int32) (v : Int64) (hN : np ≤ 60) (hx0 : ¬ x < 0) (hv : x ≤ 2 → okV np v) : Met l yX2_mayStand wsX2_mayStand ({ frames := 1, cells := 0, slots := 0, locals := 21 }) (va_Pc [.ref (ad 30), .int x, .long v] (fun U => WD D ci ad z (wM ci ad th hd mk sz ce as np kd pu ++ F) U)) (vp_Si (fun r => (r = 1 ∧ ¬ noTake x kd np v) ∨ (r = 0 ∧ noTake x kd np v))) 0 0 (fun _ => False) := by
  refine Met.ofW (cc := cX2_mayStand) (maxL := 4) (ret := (some .boolean)) (by decide) rfl ?_
  intro p e s m args below meth c s₁ B hml hv
  obtain ⟨rfl, hP, hD, hK, hE⟩ := hv
  have hx := B.exec
  have hb := B.bytes
  have hr := B.returns
  have hts := atoms_spec (ws := wsX2_mayStand) B.pre
  have hown : s.vm.findClass RX2 = some m.cls := findClass_of_methodNamed B.named
  have hlocks := B.notSynchronized
  have hS : va_S (LA z) s.heap s.heap [] := va_S.rf
  have hin2 : ∀ w ∈ wsX20, w ∈ wsX2_mayStand := by decide +kernel
  have hl := lv_entry ([.ref (ad 30), .int x, .long v]) (n := 4) (Nat.le_of_ble_eq_true rfl)
  rw [lg_entry_eq]
  generalize (lg_sl ([.ref (ad 30), .int x, .long v]) ++ List.replicate (4 - (lg_sl ([.ref (ad 30), .int x, .long v])).length) Slot.unset).toArray = ls at hl ⊢
  have hl : lv_has ls 4 [(0, .ref (ad 30)), (1, .int x), (2, .long v)] := hl
  refine lv_iload_n hx hb dX2_mayStand_0 rfl (lv_at hl 1 rfl) ?_
  refine vp_callSi (W.runS (As := [.int x]) (rest := []) ⟨hx, hb, hml, hown, hts⟩ (c_X2_isRoster l x ) (va_cwS 1 hts gX2_mayStand_X2_isRoster rfl rfl rfl (by decide +kernel) ⟨Nat.le_of_ble_eq_true rfl, Nat.le_of_ble_eq_true rfl⟩) ⟨fb0, fun U hU hW => ⟨rfl, trivial⟩⟩ rfl rfl hl.1 rfl (lv_room (Nat.le_of_ble_eq_true rfl)) dX2_mayStand_1 ⟨Nat.le_of_ble_eq_true rfl, Nat.le_of_ble_eq_true rfl⟩) (fun r1 hw1 => ?_)
  rcases hw1 with ⟨rfl, h1⟩ | ⟨rfl, h1⟩
  · skip
    refine lv_if_eq (tgt := 13) hx hb dX2_mayStand_4 (by decide) (fun c4 => absurd c4 (by decide)) (fun c4 => ?_)
    refine lv_lload_n hx hb dX2_mayStand_7 rfl (lv_at hl 2 rfl) ?_
    refine lv_lconst (v := 0) hx hb dX2_mayStand_8 (by decide) ?_
    refine lv_lcmp3 hx hb dX2_mayStand_9 (fun x_1 ex_1 => ?_)
    refine lv_if_ge (tgt := 15) hx hb dX2_mayStand_10 (by decide) (fun c10 => ?_) (fun c10 => ?_)
    · skip
      have hvk : ∃ k, k < np ∧ v = lN k := (hv h1).elim (fun q => absurd (by rw [q]; decide) (lc_nlt ex_1 (Int32.not_lt.mpr c10))) id
      obtain ⟨k, hk, ek⟩ := hvk
      refine lv_iload_n hx hb dX2_mayStand_15 rfl (lv_at hl 1 rfl) ?_
      refine lv_aload_n hx hb dX2_mayStand_16 rfl (lv_at hl 0 rfl) ?_
      refine va_get (D := D) (ci := 2) (C := RX2) (T := TX2) (N := 9) hx hb hts hin2 hown hK hP 0 rfl rfl 7 (by decide) (hts (.fieldLink RX2 26 "DutyRotaModel" "kinds" "[I") (by decide +kernel)) (fun _ h9 => h9) rfl dX2_mayStand_17 ?_
      refine lv_lload_n hx hb dX2_mayStand_20 rfl (lv_at hl 2 rfl) ?_
      refine lv_l2i hx hb dX2_mayStand_21 rfl ?_
      refine rw_ild hx hb hK hP 6 0 rfl rfl (j := k) (by rw [ek, lN_i]) (by omega) (by decide) dX2_mayStand_22 ?_
      refine vp_callSi (W.runS (As := [.int x, .int (kd k)]) (rest := []) ⟨hx, hb, hml, hown, hts⟩ (c_X2_takes l x (kd k) ) (va_cwS 2 hts gX2_mayStand_X2_takes rfl rfl rfl (by decide +kernel) ⟨Nat.le_of_ble_eq_true rfl, Nat.le_of_ble_eq_true rfl⟩) ⟨fb0, fun U hU hW => ⟨rfl, trivial⟩⟩ rfl rfl hl.1 rfl (lv_room (Nat.le_of_ble_eq_true rfl)) dX2_mayStand_23 ⟨Nat.le_of_ble_eq_true rfl, Nat.le_of_ble_eq_true rfl⟩) (fun r23 hw23 => ?_)
      rcases hw23 with ⟨rfl, h23⟩ | ⟨rfl, h23⟩
      · skip
        exact W.zret (v := 1) hx hb hr rfl (fun t ht _ => ⟨_, rfl, Or.inl ⟨rfl, fun h => h23 ((tkm_iff hN hk hx0 h1).mpr (ek ▸ h))⟩, ht⟩) (fun _ h => nomatch h) dX2_mayStand_26
      · skip
        exact W.zret (v := 0) hx hb hr rfl (fun t ht _ => ⟨_, rfl, Or.inr ⟨rfl, ek ▸ (tkm_iff hN hk hx0 h1).mp h23⟩, ht⟩) (fun _ h => nomatch h) dX2_mayStand_26
    · skip
      refine lv_iconst (v := 1) hx hb dX2_mayStand_13 (by decide) ?_
      exact W.zret (v := 1) hx hb hr rfl (fun t ht _ => ⟨_, rfl, Or.inl ⟨rfl, fun ⟨k, hk, e, _⟩ => lN_n0 (by omega) (e ▸ lc_lt ex_1 (Int32.not_le.mp c10))⟩, ht⟩) (fun _ h => nomatch h) dX2_mayStand_14
  · skip
    refine lv_if_eq (tgt := 13) hx hb dX2_mayStand_4 (by decide) (fun c4 => ?_) (fun c4 => absurd c4 (by decide))
    refine lv_iconst (v := 1) hx hb dX2_mayStand_13 (by decide) ?_
    exact W.zret (v := 1) hx hb hr rfl (fun t ht _ => ⟨_, rfl, Or.inl ⟨rfl, fun ⟨_, _, _, _, h, _⟩ => h1 h⟩, ht⟩) (fun _ h => nomatch h) dX2_mayStand_14
set_option maxHeartbeats 4000000 in
set_option maxRecDepth 100000 in
theorem c_X2_rate (l : Launch) (x : Int32) : Met l yX2_rate wsX2_rate ({ frames := 0, cells := 0, slots := 0, locals := 0 }) (va_Pc [.int x] (fun _ => True)) (vp_Si (fun r => r = rateI x)) 0 0 (fun _ => False) := by
  refine Met.ofW (cc := cX2_rate) (maxL := 1) (ret := (some .int)) (by decide) rfl ?_
  intro p e s m args below meth c s₁ B hml hv
  obtain ⟨rfl, -⟩ := hv
  have hx := B.exec
  have hb := B.bytes
  have hr := B.returns
  have hts := atoms_spec (ws := wsX2_rate) B.pre
  have hown : s.vm.findClass RX2 = some m.cls := findClass_of_methodNamed B.named
  have hlocks := B.notSynchronized
  have hl := lv_entry ([.int x]) (n := 1) (Nat.le_of_ble_eq_true rfl)
  rw [lg_entry_eq]
  generalize (lg_sl ([.int x]) ++ List.replicate (1 - (lg_sl ([.int x])).length) Slot.unset).toArray = ls at hl ⊢
  have hl : lv_has ls 1 [(0, .int x)] := hl
  refine lv_iload_n hx hb dX2_rate_0 rfl (lv_at hl 0 rfl) ?_
  refine lv_if_ne (tgt := 8) hx hb dX2_rate_1 (by decide) (fun c1 => ?_) (fun c1 => ?_)
  · skip
    refine lv_iload_n hx hb dX2_rate_8 rfl (lv_at hl 0 rfl) ?_
    refine lv_iconst (v := 1) hx hb dX2_rate_9 (by decide) ?_
    refine lv_icmp_ne (tgt := 17) hx hb dX2_rate_10 (by decide) (fun c10 => ?_) (fun c10 => ?_)
    · skip
      refine lv_iconst (v := 1) hx hb dX2_rate_17 (by decide) ?_
      exact W.iret (v := 1) hx hb hr (fun t ht _ => ⟨_, rfl, by unfold rateI; rw [if_neg c1, if_neg c10], ht⟩) (fun _ h => nomatch h) dX2_rate_18
    · skip
      refine lv_iconst (v := 2) hx hb dX2_rate_13 (by decide) ?_
      refine lv_goto (tgt := 18) hx hb dX2_rate_14 (by decide) ?_
      exact W.iret (v := 2) hx hb hr (fun t ht _ => ⟨_, rfl, by unfold rateI; rw [if_neg c1, if_pos c10], ht⟩) (fun _ h => nomatch h) dX2_rate_18
  · skip
    refine lv_iconst (v := 3) hx hb dX2_rate_4 (by decide) ?_
    refine lv_goto (tgt := 18) hx hb dX2_rate_5 (by decide) ?_
    exact W.iret (v := 3) hx hb hr (fun t ht _ => ⟨_, rfl, (if_pos c1).symm, ht⟩) (fun _ h => nomatch h) dX2_rate_18
set_option maxHeartbeats 4000000 in
set_option maxRecDepth 100000 in
theorem c_X2_noRow (l : Launch) (D : va_G) (ci : Nat → ClassId) (ad : Nat → Nat) (z : Nat) (F : va_W) (th : Int32) (hd : Nat → Int32) (mk : Nat → Int32) (sz : Nat → Int32) (ce : Nat → Int64) (as : Nat → Int64) (np : Nat) (kd : Nat → Int32) (pu : Nat → Int64) (Hg Z : Nat → Nat) (x : Int32) (j : Nat) (hH : hOK hd Hg) (hZ : zOK sz Z) (hj : j < 8) (ex : x = nI j) : Met l yX2_noRow wsX2_noRow ({ frames := 1, cells := 0, slots := 0, locals := 21 }) (va_Pc [.ref (ad 30), .int x] (fun U => WD D ci ad z (wM ci ad th hd mk sz ce as np kd pu ++ F) U)) (vp_Si (fun r => (mV mk (Hg j) = 6 ∧ r = 1) ∨ (¬ mV mk (Hg j) = 6 ∧ ¬ mV mk (Hg j) ≤ 4 ∧ r = 2) ∨ (¬ mV mk (Hg j) = 6 ∧ mV mk (Hg j) ≤ 4 ∧ r = 0))) 0 0 (fun _ => False) := by
  refine Met.ofW (cc := cX2_noRow) (maxL := 3) (ret := (some .int)) (by decide) rfl ?_
  intro p e s m args below meth c s₁ B hml hv
  obtain ⟨rfl, hP, hD, hK, hE⟩ := hv
  have hx := B.exec
  have hb := B.bytes
  have hr := B.returns
  have hts := atoms_spec (ws := wsX2_noRow) B.pre
  have hown : s.vm.findClass RX2 = some m.cls := findClass_of_methodNamed B.named
  have hlocks := B.notSynchronized
  have hS : va_S (LA z) s.heap s.heap [] := va_S.rf
  have hl := lv_entry ([.ref (ad 30), .int x]) (n := 3) (Nat.le_of_ble_eq_true rfl)
  rw [lg_entry_eq]
  generalize (lg_sl ([.ref (ad 30), .int x]) ++ List.replicate (3 - (lg_sl ([.ref (ad 30), .int x])).length) Slot.unset).toArray = ls at hl ⊢
  have hl : lv_has ls 3 [(0, .ref (ad 30)), (1, .int x)] := hl
  refine lv_aload_n hx hb dX2_noRow_0 rfl (lv_at hl 0 rfl) ?_
  refine lv_iload_n hx hb dX2_noRow_1 rfl (lv_at hl 1 rfl) ?_
  refine vp_callSi (W.runV (As := [.int x]) (rest := []) ⟨hx, hb, hml, hown, hts⟩ (c_X2_makeOf l D ci ad z F th hd mk sz ce as np kd pu Hg Z x j hH hZ hj ex) (cwV 1 hts gX2_noRow_X2_makeOf rfl rfl rfl (by decide +kernel) ⟨Nat.le_of_ble_eq_true rfl, Nat.le_of_ble_eq_true rfl⟩) ⟨WD.fb, (va_recv hK hP (ci := 2) (q0 := 0) rfl rfl), fun U hU hW => ⟨rfl, WD.call hP hD hK hE hS hU hW⟩⟩ rfl rfl hl.1 rfl (lv_room (Nat.le_of_ble_eq_true rfl)) dX2_noRow_2 ⟨Nat.le_of_ble_eq_true rfl, Nat.le_of_ble_eq_true rfl⟩) (fun r2 hw2 => ?_)
  subst hw2
  refine lv_istore_n (lv' := [(2, .int (mV mk (Hg j))), (0, .ref (ad 30)), (1, .int x)]) hx hb dX2_noRow_5 rfl hl (by decide) rfl (fun ls hl => ?_)
  refine lv_iload_n hx hb dX2_noRow_6 rfl (lv_at hl 0 rfl) ?_
  refine lv_bipush (v := 6) hx hb dX2_noRow_7 (by decide) ?_
  refine lv_icmp_ne (tgt := 16) hx hb dX2_noRow_9 (by decide) (fun c9 => ?_) (fun c9 => ?_)
  · skip
    refine lv_iload_n hx hb dX2_noRow_16 rfl (lv_at hl 0 rfl) ?_
    refine vp_callSi (W.runS (As := [.int (mV mk (Hg j))]) (rest := []) ⟨hx, hb, hml, hown, hts⟩ (c_X2_isRow l (mV mk (Hg j)) ) (va_cwS 1 hts gX2_noRow_X2_isRow rfl rfl rfl (by decide +kernel) ⟨Nat.le_of_ble_eq_true rfl, Nat.le_of_ble_eq_true rfl⟩) ⟨fb0, fun U hU hW => ⟨rfl, trivial⟩⟩ rfl rfl hl.1 rfl (lv_room (Nat.le_of_ble_eq_true rfl)) dX2_noRow_17 ⟨Nat.le_of_ble_eq_true rfl, Nat.le_of_ble_eq_true rfl⟩) (fun r17 hw17 => ?_)
    rcases hw17 with ⟨rfl, h17⟩ | ⟨rfl, h17⟩
    · skip
      refine lv_if_eq (tgt := 27) hx hb dX2_noRow_20 (by decide) (fun c20 => absurd c20 (by decide)) (fun c20 => ?_)
      refine lv_iconst (v := 0) hx hb dX2_noRow_23 (by decide) ?_
      refine lv_goto (tgt := 28) hx hb dX2_noRow_24 (by decide) ?_
      exact W.iret (v := 0) hx hb hr (fun t ht _ => ⟨_, rfl, Or.inr (Or.inr ⟨c9, h17, rfl⟩), ht⟩) (fun _ h => nomatch h) dX2_noRow_28
    · skip
      refine lv_if_eq (tgt := 27) hx hb dX2_noRow_20 (by decide) (fun c20 => ?_) (fun c20 => absurd c20 (by decide))
      refine lv_iconst (v := 2) hx hb dX2_noRow_27 (by decide) ?_
      exact W.iret (v := 2) hx hb hr (fun t ht _ => ⟨_, rfl, Or.inr (Or.inl ⟨c9, h17, rfl⟩), ht⟩) (fun _ h => nomatch h) dX2_noRow_28
  · skip
    refine lv_iconst (v := 1) hx hb dX2_noRow_12 (by decide) ?_
    refine lv_goto (tgt := 28) hx hb dX2_noRow_13 (by decide) ?_
    exact W.iret (v := 1) hx hb hr (fun t ht _ => ⟨_, rfl, Or.inl ⟨c9, rfl⟩, ht⟩) (fun _ h => nomatch h) dX2_noRow_28
set_option maxHeartbeats 4000000 in
set_option maxRecDepth 100000 in
theorem c_X2_isWrong (l : Launch) (D : va_G) (ci : Nat → ClassId) (ad : Nat → Nat) (z : Nat) (F : va_W) (th : Int32) (hd : Nat → Int32) (mk : Nat → Int32) (sz : Nat → Int32) (ce : Nat → Int64) (as : Nat → Int64) (np : Nat) (kd : Nat → Int32) (pu : Nat → Int64) (Hg Z : Nat → Nat) (x b : Int32) (j : Nat) (hH : hOK hd Hg) (hZ : zOK sz Z) (hj : j < 8) (ex : x = nI j) : Met l yX2_isWrong wsX2_isWrong ({ frames := 1, cells := 0, slots := 0, locals := 21 }) (va_Pc [.ref (ad 30), .int x, .int b] (fun U => WD D ci ad z (wM ci ad th hd mk sz ce as np kd pu ++ F) U)) (vp_Si (fun r => (r = 1 ∧ ¬ mV mk (Hg j) = 6 ∧ b = 0) ∨ (r = 0 ∧ ¬ (¬ mV mk (Hg j) = 6 ∧ b = 0)))) 0 0 (fun _ => False) := by
  refine Met.ofW (cc := cX2_isWrong) (maxL := 3) (ret := (some .boolean)) (by decide) rfl ?_
  intro p e s m args below meth c s₁ B hml hv
  obtain ⟨rfl, hP, hD, hK, hE⟩ := hv
  have hx := B.exec
  have hb := B.bytes
  have hr := B.returns
  have hts := atoms_spec (ws := wsX2_isWrong) B.pre
  have hown : s.vm.findClass RX2 = some m.cls := findClass_of_methodNamed B.named
  have hlocks := B.notSynchronized
  have hS : va_S (LA z) s.heap s.heap [] := va_S.rf
  have hl := lv_entry ([.ref (ad 30), .int x, .int b]) (n := 3) (Nat.le_of_ble_eq_true rfl)
  rw [lg_entry_eq]
  generalize (lg_sl ([.ref (ad 30), .int x, .int b]) ++ List.replicate (3 - (lg_sl ([.ref (ad 30), .int x, .int b])).length) Slot.unset).toArray = ls at hl ⊢
  have hl : lv_has ls 3 [(0, .ref (ad 30)), (1, .int x), (2, .int b)] := hl
  refine lv_aload_n hx hb dX2_isWrong_0 rfl (lv_at hl 0 rfl) ?_
  refine lv_iload_n hx hb dX2_isWrong_1 rfl (lv_at hl 1 rfl) ?_
  refine vp_callSi (W.runV (As := [.int x]) (rest := []) ⟨hx, hb, hml, hown, hts⟩ (c_X2_makeOf l D ci ad z F th hd mk sz ce as np kd pu Hg Z x j hH hZ hj ex) (cwV 1 hts gX2_isWrong_X2_makeOf rfl rfl rfl (by decide +kernel) ⟨Nat.le_of_ble_eq_true rfl, Nat.le_of_ble_eq_true rfl⟩) ⟨WD.fb, (va_recv hK hP (ci := 2) (q0 := 0) rfl rfl), fun U hU hW => ⟨rfl, WD.call hP hD hK hE hS hU hW⟩⟩ rfl rfl hl.1 rfl (lv_room (Nat.le_of_ble_eq_true rfl)) dX2_isWrong_2 ⟨Nat.le_of_ble_eq_true rfl, Nat.le_of_ble_eq_true rfl⟩) (fun r2 hw2 => ?_)
  subst hw2
  refine lv_bipush (v := 6) hx hb dX2_isWrong_5 (by decide) ?_
  refine lv_icmp_eq (tgt := 18) hx hb dX2_isWrong_7 (by decide) (fun c7 => ?_) (fun c7 => ?_)
  · skip
    refine lv_iconst (v := 0) hx hb dX2_isWrong_18 (by decide) ?_
    exact W.zret (v := 0) hx hb hr rfl (fun t ht _ => ⟨_, rfl, Or.inr ⟨rfl, fun h => h.1 c7⟩, ht⟩) (fun _ h => nomatch h) dX2_isWrong_19
  · skip
    refine lv_iload_n hx hb dX2_isWrong_10 rfl (lv_at hl 2 rfl) ?_
    refine lv_if_ne (tgt := 18) hx hb dX2_isWrong_11 (by decide) (fun c11 => ?_) (fun c11 => ?_)
    · skip
      refine lv_iconst (v := 0) hx hb dX2_isWrong_18 (by decide) ?_
      exact W.zret (v := 0) hx hb hr rfl (fun t ht _ => ⟨_, rfl, Or.inr ⟨rfl, fun h => c11 h.2⟩, ht⟩) (fun _ h => nomatch h) dX2_isWrong_19
    · skip
      refine lv_iconst (v := 1) hx hb dX2_isWrong_14 (by decide) ?_
      refine lv_goto (tgt := 19) hx hb dX2_isWrong_15 (by decide) ?_
      exact W.zret (v := 1) hx hb hr rfl (fun t ht _ => ⟨_, rfl, Or.inl ⟨rfl, c7, c11⟩, ht⟩) (fun _ h => nomatch h) dX2_isWrong_19
