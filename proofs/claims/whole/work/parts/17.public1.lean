set_option maxHeartbeats 4000000 in
set_option maxRecDepth 100000 in
theorem c_X1_share (l : Launch) (D : va_G) (ci : Nat → ClassId) (ad : Nat → Nat) (z : Nat) (F : va_W) (hf : Nat → Nat) (ft : Nat → Int64) (fk : Nat → Int32) (fp : Nat → Int64) (n : Nat) (mk : Nat → Int32) (sz : Nat → Nat) (pl : Nat → Nat → Int64) (x y : Int32) (hlt : l.stackTraces = false) (hHF : ∀ h, h < 8 → hf h < 10) (hSZ : ∀ i, i < 10 → sz i ≤ 40) (h9s : sz 9 = 0) (h9m : mk 9 = 6) (hN : n ≤ 60) (hKD : ∀ k, k < n → ∃ q, q < 3 ∧ fk k = nI q) : vx_Met l yX1_share wsX1_share ({ frames := 7, cells := 2, slots := 12, locals := 110 }) (va_Pc [.ref (ad 0), .int x, .int y] (fun U => WD D ci ad z (wC ci ad hf ft fk fp n mk sz pl ++ F) U)) (va_Qi (fun (r : Int32) (u : Nat → Nat) => ∃ a b, a < 8 ∧ b < 8 ∧ x = nI a ∧ y = nI b ∧ r = mk (hf a) ∧ u = va_up hf b (hf a)) (fun u t => va_P D vwCl (wC ci ad u ft fk fp n mk sz pl ++ F) t.heap ∧ va_D (LA z) (wC ci ad u ft fk fp n mk sz pl ++ F)) (LA z)) (XT D z (wC ci ad hf ft fk fp n mk sz pl ++ F) (fun E => E = iaeN ∧ (badH x ∨ badH y))) 2 12 (LA z) := by
  refine vx_ofW (cc := cX1_share) (maxL := 3) (ret := (some .int)) (by decide) rfl ?_
  intro p e s m args below meth c s₁ B hml hex hv
  obtain ⟨rfl, hP, hD, hK, hE⟩ := hv
  have hx := B.exec
  have hb := B.bytes
  have hr := B.returns
  have hts := atoms_spec (ws := wsX1_share) B.pre
  have hown : s.vm.findClass RX1 = some m.cls := findClass_of_methodNamed B.named
  have hlocks := B.notSynchronized
  have hS : va_S (LA z) s.heap s.heap [] := va_S.rf
  have hex0 : ∀ (j : Nat), ∀ x ∈ c.exceptionTable.toList, covers x j = false := fun _ x hx => (hex x hx).elim
  have hin0 : ∀ w ∈ wsX00, w ∈ wsX1_share := by decide +kernel
  have hin1 : ∀ w ∈ wsX10, w ∈ wsX1_share := by decide +kernel
  have hl := lv_entry ([.ref (ad 0), .int x, .int y]) (n := 3) (Nat.le_of_ble_eq_true rfl)
  rw [lg_entry_eq]
  generalize (lg_sl ([.ref (ad 0), .int x, .int y]) ++ List.replicate (3 - (lg_sl ([.ref (ad 0), .int x, .int y])).length) Slot.unset).toArray = ls at hl ⊢
  have hl : lv_has ls 3 [(0, .ref (ad 0)), (1, .int x), (2, .int y)] := hl
  refine lv_iload_n hx hb dX1_share_0 rfl (lv_at hl 1 rfl) ?_
  refine vx_callv (vx_runS (As := [.int x]) (rest := []) ⟨hx, hb, hml, hown, hts⟩ (c_X1_requireHook l D ci ad z F hf ft fk fp n mk sz pl x hlt ) (va_cwS 1 hts gX1_share_X1_requireHook rfl rfl rfl (by decide +kernel) ⟨Nat.le_of_ble_eq_true rfl, Nat.le_of_ble_eq_true rfl⟩) ⟨WD.fb, fun U hU hW => ⟨rfl, WD.call hP hD hK hE hS hU hW⟩⟩ rfl rfl hl.1 rfl (lv_room (Nat.le_of_ble_eq_true rfl)) dX1_share_1 ⟨Nat.le_of_ble_eq_true rfl, Nat.le_of_ble_eq_true rfl⟩) hS (fun q _ h => h) (fun q h => h) (fun q _ h => h) (fun E1 ce1 qx1 u1 t1 H locs ht1 hvm1 hpx1 hB1 hz1 hk1 hS hce1 hcv1 hcl1 => ?_) (fun u1 t1 H locs ht1 hvm1 hw1 hB1 hz1 hk1 hS => ?_)
  · skip
    obtain ⟨hph, hP, hD⟩ := hB1
    rw [ht1] at hP
    exact vx_out (hex0 _) hlocks hce1 hcv1 hcl1 (XT.out hP hD hS (⟨hph.1, Or.inl hph.2⟩)) hS.2.2 (by decide) (by decide)
  obtain ⟨hP, hD⟩ := hB1
  rw [ht1] at hP
  obtain ⟨a, ha, ea⟩ := hw1
  refine lv_iload_n hx hb dX1_share_4 rfl (lv_at hl 2 rfl) ?_
  refine vx_callv (vx_runS (As := [.int y]) (rest := []) ⟨hx, hb, hml, hown, hts⟩ (c_X1_requireHook l D ci ad z F hf ft fk fp n mk sz pl y hlt ) (va_cwS 1 hts gX1_share_X1_requireHook rfl rfl rfl (by decide +kernel) ⟨Nat.le_of_ble_eq_true rfl, Nat.le_of_ble_eq_true rfl⟩) ⟨WD.fb, fun U hU hW => ⟨rfl, WD.call hP hD hK hE hS hU hW⟩⟩ rfl rfl hl.1 rfl (lv_room (Nat.le_of_ble_eq_true rfl)) dX1_share_5 ⟨Nat.le_of_ble_eq_true rfl, Nat.le_of_ble_eq_true rfl⟩) hS (fun q _ h => h) (fun q h => h) (fun q _ h => h) (fun E5 ce5 qx5 u5 t5 H locs ht5 hvm5 hpx5 hB5 hz5 hk5 hS hce5 hcv5 hcl5 => ?_) (fun u5 t5 H locs ht5 hvm5 hw5 hB5 hz5 hk5 hS => ?_)
  · skip
    obtain ⟨hph, hP, hD⟩ := hB5
    rw [ht5] at hP
    exact vx_out (hex0 _) hlocks hce5 hcv5 hcl5 (XT.out hP hD hS (⟨hph.1, Or.inr hph.2⟩)) hS.2.2 (by decide) (by decide)
  obtain ⟨hP, hD⟩ := hB5
  rw [ht5] at hP
  obtain ⟨b, hb8, eb⟩ := hw5
  refine lv_aload_n hx hb dX1_share_8 rfl (lv_at hl 0 rfl) ?_
  refine va_get (D := D) (ci := 1) (C := RX1) (T := TX1) (N := 7) hx hb hts hin1 hown hK hP 0 rfl rfl 1 (by decide) (hts (.fieldLink RX1 18 "DutyRota" "hooks" "[LDutyRota$Sheet;") (by decide +kernel)) (fun _ h9 => h9) rfl dX1_share_9 ?_
  refine lv_iload_n hx hb dX1_share_12 rfl (lv_at hl 2 rfl) ?_
  refine lv_aload_n hx hb dX1_share_13 rfl (lv_at hl 0 rfl) ?_
  refine va_get (D := D) (ci := 1) (C := RX1) (T := TX1) (N := 7) hx hb hts hin1 hown hK hP 0 rfl rfl 1 (by decide) (hts (.fieldLink RX1 18 "DutyRota" "hooks" "[LDutyRota$Sheet;") (by decide +kernel)) (fun _ h9 => h9) rfl dX1_share_14 ?_
  refine lv_iload_n hx hb dX1_share_17 rfl (lv_at hl 1 rfl) ?_
  refine rw_rld hx hb hK hP 1 2 rfl rfl (j := a) (ea) (ha) (by decide) rfl dX1_share_18 ?_
  refine rw_rst hx hb hK hP hD hS 1 2 (6 + (hf a)) 0 rfl rfl (wC_sh (hHF a ha)) rfl (j := b) (eb) (hb8) (by decide) (ws' := wC ci ad (va_up hf b (hf a)) ft fk fp n mk sz pl ++ F) (by rw [wC_hk]; rfl) dX1_share_19 (fun H locs hP hD hS => ?_)
  refine lv_aload_n hx hb dX1_share_20 rfl (lv_at hl 0 rfl) ?_
  refine va_get (D := D) (ci := 1) (C := RX1) (T := TX1) (N := 7) hx hb hts hin1 hown hK hP 0 rfl rfl 1 (by decide) (hts (.fieldLink RX1 18 "DutyRota" "hooks" "[LDutyRota$Sheet;") (by decide +kernel)) (fun _ h9 => h9) rfl dX1_share_21 ?_
  refine lv_iload_n hx hb dX1_share_24 rfl (lv_at hl 2 rfl) ?_
  refine rw_rld hx hb hK hP 1 2 rfl rfl (j := b) (eb) (hb8) (by decide) rfl dX1_share_25 ?_
  refine va_getN (D := D) (ci := 0) (C := RX0) (T := TX0) (N := 3) hx hb hts hin0 hown hK hP (6 + ((va_up hf b (hf a)) b)) (wC_sh (by rw [va_up_self]; exact hHF a ha)) rfl 1 (by decide) (hE.nF (by decide +kernel)) (fun _ h9 => h9) rfl dX1_share_26 ?_
  refine vx_ret ?_
  exact W.iret (v := (mk ((va_up hf b (hf a)) b))) hx hb hr (fun t ht _ => ⟨⟨_, ((va_up hf b (hf a))), rfl, ⟨a, b, ha, hb8, ea, eb, by rw [va_up_self], rfl⟩, by rw [ht]; exact hP, hD⟩, hS.F ht⟩) hS.2.2 dX1_share_29
set_option maxHeartbeats 4000000 in
set_option maxRecDepth 100000 in
theorem c_X1_hire (l : Launch) (D : va_G) (ci : Nat → ClassId) (ad : Nat → Nat) (z : Nat) (F : va_W) (hf : Nat → Nat) (ft : Nat → Int64) (fk : Nat → Int32) (fp : Nat → Int64) (n : Nat) (mk : Nat → Int32) (sz : Nat → Nat) (pl : Nat → Nat → Int64) (x : Int32) (hN : n ≤ 60) : Met l yX1_hire wsX1_hire ({ frames := 0, cells := 0, slots := 0, locals := 0 }) (va_Pc [.ref (ad 0), .int x] (fun U => WD D ci ad z (wC ci ad hf ft fk fp n mk sz pl ++ F) U)) (va_Qi (fun (r : Int32) (u : (Nat → Int32) × Nat) => ((x < 0 ∨ 2 < x ∨ n = 60) ∧ r = -1 ∧ u = (fk, n)) ∨ (¬ x < 0 ∧ ¬ 2 < x ∧ n < 60 ∧ r = nI n ∧ u = (upd fk n x, n + 1))) (fun u t => va_P D vwCl (wC ci ad hf ft u.1 fp u.2 mk sz pl ++ F) t.heap ∧ va_D (LA z) (wC ci ad hf ft u.1 fp u.2 mk sz pl ++ F)) (LA z)) 0 0 (LA z) := by
  refine Met.ofW (cc := cX1_hire) (maxL := 3) (ret := (some .int)) (by decide) rfl ?_
  intro p e s m args below meth c s₁ B hml hv
  obtain ⟨rfl, hP, hD, hK, hE⟩ := hv
  have hx := B.exec
  have hb := B.bytes
  have hr := B.returns
  have hts := atoms_spec (ws := wsX1_hire) B.pre
  have hown : s.vm.findClass RX1 = some m.cls := findClass_of_methodNamed B.named
  have hlocks := B.notSynchronized
  have hS : va_S (LA z) s.heap s.heap [] := va_S.rf
  have hin1 : ∀ w ∈ wsX10, w ∈ wsX1_hire := by decide +kernel
  have hl := lv_entry ([.ref (ad 0), .int x]) (n := 3) (Nat.le_of_ble_eq_true rfl)
  rw [lg_entry_eq]
  generalize (lg_sl ([.ref (ad 0), .int x]) ++ List.replicate (3 - (lg_sl ([.ref (ad 0), .int x])).length) Slot.unset).toArray = ls at hl ⊢
  have hl : lv_has ls 3 [(0, .ref (ad 0)), (1, .int x)] := hl
  refine lv_iload_n hx hb dX1_hire_0 rfl (lv_at hl 1 rfl) ?_
  refine lv_if_lt (tgt := 18) hx hb dX1_hire_1 (by decide) (fun c1 => ?_) (fun c1 => ?_)
  · skip
    refine lv_iconst (v := -1) hx hb dX1_hire_18 (by decide) ?_
    exact W.iret (v := (-1)) hx hb hr (fun t ht _ => ⟨⟨_, (fk, n), rfl, Or.inl ⟨Or.inl c1, rfl, rfl⟩, by rw [ht]; exact hP, hD⟩, hS.F ht⟩) hS.2.2 dX1_hire_19
  · skip
    refine lv_iload_n hx hb dX1_hire_4 rfl (lv_at hl 1 rfl) ?_
    refine lv_iconst (v := 2) hx hb dX1_hire_5 (by decide) ?_
    refine lv_icmp_gt (tgt := 18) hx hb dX1_hire_6 (by decide) (fun c6 => ?_) (fun c6 => ?_)
    · skip
      refine lv_iconst (v := -1) hx hb dX1_hire_18 (by decide) ?_
      exact W.iret (v := (-1)) hx hb hr (fun t ht _ => ⟨⟨_, (fk, n), rfl, Or.inl ⟨Or.inr (Or.inl c6), rfl, rfl⟩, by rw [ht]; exact hP, hD⟩, hS.F ht⟩) hS.2.2 dX1_hire_19
    · skip
      refine lv_aload_n hx hb dX1_hire_9 rfl (lv_at hl 0 rfl) ?_
      refine va_get (D := D) (ci := 1) (C := RX1) (T := TX1) (N := 7) hx hb hts hin1 hown hK hP 0 rfl rfl 6 (by decide) (hts (.fieldLink RX1 36 "DutyRota" "hired" "I") (by decide +kernel)) (fun _ h9 => h9) rfl dX1_hire_10 ?_
      refine lv_bipush (v := 60) hx hb dX1_hire_13 (by decide) ?_
      refine lv_icmp_lt (tgt := 20) hx hb dX1_hire_15 (by decide) (fun c15 => ?_) (fun c15 => ?_)
      · skip
        have hn : n < 60 := (nI_ltI (by omega) (by decide : 60 < 2 ^ 31)).mp c15
        refine lv_aload_n hx hb dX1_hire_20 rfl (lv_at hl 0 rfl) ?_
        refine va_get (D := D) (ci := 1) (C := RX1) (T := TX1) (N := 7) hx hb hts hin1 hown hK hP 0 rfl rfl 6 (by decide) (hts (.fieldLink RX1 36 "DutyRota" "hired" "I") (by decide +kernel)) (fun _ h9 => h9) rfl dX1_hire_21 ?_
        refine lv_istore_n (lv' := [(2, .int (nI n)), (0, .ref (ad 0)), (1, .int x)]) hx hb dX1_hire_24 rfl hl (by decide) rfl (fun ls hl => ?_)
        refine lv_aload_n hx hb dX1_hire_25 rfl (lv_at hl 1 rfl) ?_
        refine va_get (D := D) (ci := 1) (C := RX1) (T := TX1) (N := 7) hx hb hts hin1 hown hK hP 0 rfl rfl 4 (by decide) (hts (.fieldLink RX1 29 "DutyRota" "kinds" "[I") (by decide +kernel)) (fun _ h9 => h9) rfl dX1_hire_26 ?_
        refine lv_iload_n hx hb dX1_hire_29 rfl (lv_at hl 0 rfl) ?_
        refine lv_iload_n hx hb dX1_hire_30 rfl (lv_at hl 2 rfl) ?_
        refine rw_ist hx hb hK hP hD hS 4 0 rfl rfl (j := n) (rfl) (hn) (by decide) (ws' := wC ci ad hf ft (upd fk n x) fp n mk sz pl ++ F) rfl dX1_hire_31 (fun H locs hP hD hS => ?_)
        refine lv_aload_n hx hb dX1_hire_32 rfl (lv_at hl 1 rfl) ?_
        refine lv_iload_n hx hb dX1_hire_33 rfl (lv_at hl 0 rfl) ?_
        refine lv_iconst (v := 1) hx hb dX1_hire_34 (by decide) ?_
        refine lv_iadd hx hb dX1_hire_35 ?_
        refine rw_topi (y := (nI (n + 1))) (nI_1 n) ?_
        refine va_put (D := D) (ci := 1) (ty := .int) (C := RX1) (T := TX1) (N := 7) hx hb hts hin1 tyX1 tyX1_ok nmX1 hown hK hP hD hS 0 rfl rfl 6 (by decide) (hts (.fieldLink RX1 36 "DutyRota" "hired" "I") (by decide +kernel)) (fun _ h9 => h9) rfl (by decide +kernel) rfl rfl (Nat.le_of_ble_eq_true rfl) dX1_hire_36 (fun H locs hP hD hS => ?_)
        have hP : va_P D vwCl (wC ci ad hf ft (upd fk n x) fp (n + 1) mk sz pl ++ F) H := hP
        have hD : va_D (LA z) (wC ci ad hf ft (upd fk n x) fp (n + 1) mk sz pl ++ F) := hD
        refine lv_iload_n hx hb dX1_hire_39 rfl (lv_at hl 0 rfl) ?_
        exact W.iret (v := (nI n)) hx hb hr (fun t ht _ => ⟨⟨_, ((upd fk n x), (n + 1)), rfl, Or.inr ⟨c1, c6, hn, rfl, rfl⟩, by rw [ht]; exact hP, hD⟩, hS.F ht⟩) hS.2.2 dX1_hire_40
      · skip
        have hn : n = 60 := by have := nI_lt_of (a := 59) (b := n) (fun h => c15 (by exact (nI_ltI (by omega) (by decide : 60 < 2 ^ 31)).mpr (by have := (nI_leI (by omega) (by omega)).mp h; omega))) (by omega) (by omega); omega
        refine lv_iconst (v := -1) hx hb dX1_hire_18 (by decide) ?_
        exact W.iret (v := (-1)) hx hb hr (fun t ht _ => ⟨⟨_, (fk, n), rfl, Or.inl ⟨Or.inr (Or.inr hn), rfl, rfl⟩, by rw [ht]; exact hP, hD⟩, hS.F ht⟩) hS.2.2 dX1_hire_19
set_option maxHeartbeats 4000000 in
set_option maxRecDepth 100000 in
theorem c_X1_put (l : Launch) (D : va_G) (ci : Nat → ClassId) (ad : Nat → Nat) (z : Nat) (F : va_W) (hf : Nat → Nat) (ft : Nat → Int64) (fk : Nat → Int32) (fp : Nat → Int64) (n : Nat) (mk : Nat → Int32) (sz : Nat → Nat) (pl : Nat → Nat → Int64) (x i y : Int32) (hlt : l.stackTraces = false) (hHF : ∀ h, h < 8 → hf h < 10) (hSZ : ∀ i, i < 10 → sz i ≤ 40) (h9s : sz 9 = 0) (h9m : mk 9 = 6) (hN : n ≤ 60) (hKD : ∀ k, k < n → ∃ q, q < 3 ∧ fk k = nI q) : vx_Met l yX1_put wsX1_put ({ frames := 7, cells := 2, slots := 12, locals := 111 }) (va_Pc [.ref (ad 0), .int x, .int i, .int y] (fun U => WD D ci ad z (wC ci ad hf ft fk fp n mk sz pl ++ F) U)) (va_Qi (fun (r : Int32) (u : Nat → Nat → Int64) => ∃ a f, a < 8 ∧ x = nI a ∧ (y = -1 ∨ ∃ k, k < n ∧ y = nI k) ∧ u = va_up pl (hf a) f ∧ putP (mk (hf a)) (sz (hf a)) (pl (hf a)) fk n i y r f) (fun u t => va_P D vwCl (wC ci ad hf ft fk fp n mk sz u ++ F) t.heap ∧ va_D (LA z) (wC ci ad hf ft fk fp n mk sz u ++ F)) (LA z)) (XT D z (wC ci ad hf ft fk fp n mk sz pl ++ F) (fun E => (E = iaeN ∧ badH x) ∨ (E = nsN ∧ ¬ badH x ∧ ¬ y = -1 ∧ (y < 0 ∨ nI n ≤ y)))) 2 12 (LA z) := by
  refine vx_ofW (cc := cX1_put) (maxL := 5) (ret := (some .int)) (by decide) rfl ?_
  intro p e s m args below meth c s₁ B hml hex hv
  obtain ⟨rfl, hP, hD, hK, hE⟩ := hv
  have hx := B.exec
  have hb := B.bytes
  have hr := B.returns
  have hts := atoms_spec (ws := wsX1_put) B.pre
  have hown : s.vm.findClass RX1 = some m.cls := findClass_of_methodNamed B.named
  have hlocks := B.notSynchronized
  have hS : va_S (LA z) s.heap s.heap [] := va_S.rf
  have hex0 : ∀ (j : Nat), ∀ x ∈ c.exceptionTable.toList, covers x j = false := fun _ x hx => (hex x hx).elim
  have hin0 : ∀ w ∈ wsX00, w ∈ wsX1_put := by decide +kernel
  have hin1 : ∀ w ∈ wsX10, w ∈ wsX1_put := by decide +kernel
  have hl := lv_entry ([.ref (ad 0), .int x, .int i, .int y]) (n := 5) (Nat.le_of_ble_eq_true rfl)
  rw [lg_entry_eq]
  generalize (lg_sl ([.ref (ad 0), .int x, .int i, .int y]) ++ List.replicate (5 - (lg_sl ([.ref (ad 0), .int x, .int i, .int y])).length) Slot.unset).toArray = ls at hl ⊢
  have hl : lv_has ls 5 [(0, .ref (ad 0)), (1, .int x), (2, .int i), (3, .int y)] := hl
  refine lv_iload_n hx hb dX1_put_0 rfl (lv_at hl 1 rfl) ?_
  refine vx_callv (vx_runS (As := [.int x]) (rest := []) ⟨hx, hb, hml, hown, hts⟩ (c_X1_requireHook l D ci ad z F hf ft fk fp n mk sz pl x hlt ) (va_cwS 1 hts gX1_put_X1_requireHook rfl rfl rfl (by decide +kernel) ⟨Nat.le_of_ble_eq_true rfl, Nat.le_of_ble_eq_true rfl⟩) ⟨WD.fb, fun U hU hW => ⟨rfl, WD.call hP hD hK hE hS hU hW⟩⟩ rfl rfl hl.1 rfl (lv_room (Nat.le_of_ble_eq_true rfl)) dX1_put_1 ⟨Nat.le_of_ble_eq_true rfl, Nat.le_of_ble_eq_true rfl⟩) hS (fun q _ h => h) (fun q h => h) (fun q _ h => h) (fun E1 ce1 qx1 u1 t1 H locs ht1 hvm1 hpx1 hB1 hz1 hk1 hS hce1 hcv1 hcl1 => ?_) (fun u1 t1 H locs ht1 hvm1 hw1 hB1 hz1 hk1 hS => ?_)
  · skip
    obtain ⟨hph, hP, hD⟩ := hB1
    rw [ht1] at hP
    exact vx_out (hex0 _) hlocks hce1 hcv1 hcl1 (XT.out hP hD hS (Or.inl hph)) hS.2.2 (by decide) (by decide)
  obtain ⟨hP, hD⟩ := hB1
  rw [ht1] at hP
  obtain ⟨a, ha, ea⟩ := hw1
  have hok : ¬ badH x := nbad ha ea
  refine lv_iload_n hx hb dX1_put_4 rfl (lv_at hl 3 rfl) ?_
  refine lv_iconst (v := -1) hx hb dX1_put_5 (by decide) ?_
  refine lv_icmp_eq (tgt := 14) hx hb dX1_put_6 (by decide) (fun c6 => ?_) (fun c6 => ?_)
  · skip
    have hy : y = -1 ∨ ∃ k, k < n ∧ y = nI k := Or.inl c6
    refine lv_aload_n hx hb dX1_put_14 rfl (lv_at hl 0 rfl) ?_
    refine va_get (D := D) (ci := 1) (C := RX1) (T := TX1) (N := 7) hx hb hts hin1 hown hK hP 0 rfl rfl 1 (by decide) (hts (.fieldLink RX1 18 "DutyRota" "hooks" "[LDutyRota$Sheet;") (by decide +kernel)) (fun _ h9 => h9) rfl dX1_put_15 ?_
    refine lv_iload_n hx hb dX1_put_18 rfl (lv_at hl 1 rfl) ?_
    refine rw_rld hx hb hK hP 1 2 rfl rfl (j := a) (ea) (ha) (by decide) rfl dX1_put_19 ?_
    refine lv_astore (lv' := [(4, .ref (ad (10 + (hf a)))), (0, .ref (ad 0)), (1, .int x), (2, .int i), (3, .int y)]) hx hb dX1_put_20 hl (by decide) rfl (fun ls hl => ?_)
    refine lv_aload hx hb dX1_put_22 (lv_at hl 0 rfl) ?_
    refine vp_callSi (toCR (va_runVN (As := []) (rest := []) ⟨hx, hb, hml, hown, hts⟩ (c_X0_isNothing l D ci ad z F hf ft fk fp n mk sz pl (hf a)  (hHF a ha) ) ⟨va_cnB 0 hts gX1_put_X0_isNothing_n67 rfl rfl rfl (hE.nM (by decide +kernel)) (hts (.initialized RX0) (by decide +kernel)) (by decide +kernel) ⟨Nat.le_of_ble_eq_true rfl, Nat.le_of_ble_eq_true rfl⟩, hts (.instanceMethod yX0_isNothing) (by decide +kernel), hts (.selects RX0 yX0_isNothing yX0_isNothing) (by decide +kernel)⟩ ⟨WD.fb, (va_recv hK hP (ci := 0) (q0 := 6 + (hf a)) rfl (wC_sh (hHF a ha))), fun U hU hW => ⟨rfl, WD.call hP hD hK hE hS hU hW⟩⟩ rfl rfl hl.1 rfl (lv_room (Nat.le_of_ble_eq_true rfl)) dX1_put_24 ⟨Nat.le_of_ble_eq_true rfl, Nat.le_of_ble_eq_true rfl⟩)) (fun r24 hw24 => ?_)
    rcases hw24 with ⟨rfl, h24⟩ | ⟨rfl, h24⟩
    · skip
      refine lv_if_eq (tgt := 32) hx hb dX1_put_27 (by decide) (fun c27 => absurd c27 (by decide)) (fun c27 => ?_)
      refine lv_iconst (v := 1) hx hb dX1_put_30 (by decide) ?_
      refine vx_ret ?_
      refine W.widen (k := 2) (n := 12) (by decide) (by decide) ?_
      exact W.iret (v := 1) hx hb hr (fun t ht _ => ⟨⟨_, (pl), rfl, ⟨a, _, ha, ea, hy, (up_self _ _).symm, Or.inl ⟨h24, rfl, rfl⟩⟩, by rw [ht]; exact hP, hD⟩, hS.F ht⟩) hS.2.2 dX1_put_31
    · skip
      refine lv_if_eq (tgt := 32) hx hb dX1_put_27 (by decide) (fun c27 => ?_) (fun c27 => absurd c27 (by decide))
      refine lv_aload hx hb dX1_put_32 (lv_at hl 0 rfl) ?_
      refine vp_callSi (toCR (va_runVN (As := []) (rest := []) ⟨hx, hb, hml, hown, hts⟩ (c_X0_isRoster l D ci ad z F hf ft fk fp n mk sz pl (hf a)  (hHF a ha) ) ⟨va_cnB 0 hts gX1_put_X0_isRoster_n71 rfl rfl rfl (hE.nM (by decide +kernel)) (hts (.initialized RX0) (by decide +kernel)) (by decide +kernel) ⟨Nat.le_of_ble_eq_true rfl, Nat.le_of_ble_eq_true rfl⟩, hts (.instanceMethod yX0_isRoster) (by decide +kernel), hts (.selects RX0 yX0_isRoster yX0_isRoster) (by decide +kernel)⟩ ⟨WD.fb, (va_recv hK hP (ci := 0) (q0 := 6 + (hf a)) rfl (wC_sh (hHF a ha))), fun U hU hW => ⟨rfl, WD.call hP hD hK hE hS hU hW⟩⟩ rfl rfl hl.1 rfl (lv_room (Nat.le_of_ble_eq_true rfl)) dX1_put_34 ⟨Nat.le_of_ble_eq_true rfl, Nat.le_of_ble_eq_true rfl⟩)) (fun r34 hw34 => ?_)
      rcases hw34 with ⟨rfl, h34⟩ | ⟨rfl, h34⟩
      · skip
        refine lv_if_ne (tgt := 42) hx hb dX1_put_37 (by decide) (fun c37 => ?_) (fun c37 => absurd c37 (by decide))
        refine lv_aload hx hb dX1_put_42 (lv_at hl 0 rfl) ?_
        refine lv_iload_n hx hb dX1_put_44 rfl (lv_at hl 3 rfl) ?_
        refine vp_callSi (toCR (va_runVN (As := [.int i]) (rest := []) ⟨hx, hb, hml, hown, hts⟩ (c_X0_hasPlace l D ci ad z F hf ft fk fp n mk sz pl (hf a) i (hHF a ha) (hSZ _ (hHF a ha))) ⟨va_cnB 1 hts gX1_put_X0_hasPlace_n74 rfl rfl rfl (hE.nM (by decide +kernel)) (hts (.initialized RX0) (by decide +kernel)) (by decide +kernel) ⟨Nat.le_of_ble_eq_true rfl, Nat.le_of_ble_eq_true rfl⟩, hts (.instanceMethod yX0_hasPlace) (by decide +kernel), hts (.selects RX0 yX0_hasPlace yX0_hasPlace) (by decide +kernel)⟩ ⟨WD.fb, (va_recv hK hP (ci := 0) (q0 := 6 + (hf a)) rfl (wC_sh (hHF a ha))), fun U hU hW => ⟨rfl, WD.call hP hD hK hE hS hU hW⟩⟩ rfl rfl hl.1 rfl (lv_room (Nat.le_of_ble_eq_true rfl)) dX1_put_45 ⟨Nat.le_of_ble_eq_true rfl, Nat.le_of_ble_eq_true rfl⟩)) (fun r45 hw45 => ?_)
        rcases hw45 with ⟨rfl, h45⟩ | ⟨rfl, h45⟩
        · skip
          obtain ⟨k, hk, ek⟩ := h45
          have h9 : hf a < 9 := lt9 h9s (hHF a ha) hk
          have hs40 := hSZ _ (hHF a ha)
          refine lv_if_ne (tgt := 53) hx hb dX1_put_48 (by decide) (fun c48 => ?_) (fun c48 => absurd c48 (by decide))
          refine lv_aload_n hx hb dX1_put_53 rfl (lv_at hl 1 rfl) ?_
          refine lv_aload hx hb dX1_put_54 (lv_at hl 0 rfl) ?_
          refine lv_iload_n hx hb dX1_put_56 rfl (lv_at hl 4 rfl) ?_
          refine lv_i2l hx hb dX1_put_57 rfl ?_
          refine vp_callSi (W.runV (As := [.ref (ad (10 + (hf a))), .long y.toInt64]) (rest := []) ⟨hx, hb, hml, hown, hts⟩ (c_X1_takes l D ci ad z F hf ft fk fp n mk sz pl (hf a) y.toInt64 (hHF a ha) hN) (cwV 2 hts gX1_put_X1_takes rfl rfl rfl (by decide +kernel) ⟨Nat.le_of_ble_eq_true rfl, Nat.le_of_ble_eq_true rfl⟩) ⟨WD.fb, (va_recv hK hP (ci := 1) (q0 := 0) rfl rfl), fun U hU hW => ⟨rfl, WD.call hP hD hK hE hS hU hW⟩⟩ rfl rfl hl.1 rfl (lv_room (Nat.le_of_ble_eq_true rfl)) dX1_put_58 ⟨Nat.le_of_ble_eq_true rfl, Nat.le_of_ble_eq_true rfl⟩) (fun r58 hw58 => ?_)
          rcases hw58 with ⟨rfl, h58⟩ | ⟨rfl, h58⟩
          · skip
            refine lv_if_ne (tgt := 66) hx hb dX1_put_61 (by decide) (fun c61 => ?_) (fun c61 => absurd c61 (by decide))
            refine lv_aload hx hb dX1_put_66 (lv_at hl 0 rfl) ?_
            refine va_getN (D := D) (ci := 0) (C := RX0) (T := TX0) (N := 3) hx hb hts hin0 hown hK hP (6 + (hf a)) (wC_sh (hHF a ha)) rfl 0 (by decide) (hE.nF (by decide +kernel)) (fun _ h9 => h9) rfl dX1_put_68 ?_
            refine lv_iload_n hx hb dX1_put_71 rfl (lv_at hl 3 rfl) ?_
            refine lv_iload_n hx hb dX1_put_72 rfl (lv_at hl 4 rfl) ?_
            refine lv_i2l hx hb dX1_put_73 rfl ?_
            refine rw_lst hx hb hK hP hD hS (16 + (hf a)) 1 (wC_pl h9) rfl (j := k) (ek) (by omega) (by decide) (ws' := wC ci ad hf ft fk fp n mk sz (va_up pl (hf a) (vp_updL (pl (hf a)) k y.toInt64)) ++ F) (wC_set_pl h9 _) dX1_put_74 (fun H locs hP hD hS => ?_)
            refine lv_iconst (v := 0) hx hb dX1_put_75 (by decide) ?_
            refine vx_ret ?_
            refine W.widen (k := 2) (n := 12) (by decide) (by decide) ?_
            exact W.iret (v := 0) hx hb hr (fun t ht _ => ⟨⟨_, ((va_up pl (hf a) (vp_updL (pl (hf a)) k y.toInt64))), rfl, ⟨a, _, ha, ea, hy, rfl, Or.inr (Or.inr (Or.inr ⟨h34, k, hk, ek, Or.inr ⟨h58, rfl, rfl⟩⟩))⟩, by rw [ht]; exact hP, hD⟩, hS.F ht⟩) hS.2.2 dX1_put_76
          · skip
            refine lv_if_ne (tgt := 66) hx hb dX1_put_61 (by decide) (fun c61 => absurd c61 (by decide)) (fun c61 => ?_)
            refine lv_iconst (v := 2) hx hb dX1_put_64 (by decide) ?_
            refine vx_ret ?_
            refine W.widen (k := 2) (n := 12) (by decide) (by decide) ?_
            exact W.iret (v := 2) hx hb hr (fun t ht _ => ⟨⟨_, (pl), rfl, ⟨a, _, ha, ea, hy, (up_self _ _).symm, Or.inr (Or.inr (Or.inr ⟨h34, k, hk, ek, Or.inl ⟨h58, rfl, rfl⟩⟩))⟩, by rw [ht]; exact hP, hD⟩, hS.F ht⟩) hS.2.2 dX1_put_65
        · skip
          refine lv_if_ne (tgt := 53) hx hb dX1_put_48 (by decide) (fun c48 => absurd c48 (by decide)) (fun c48 => ?_)
          refine lv_iconst (v := 3) hx hb dX1_put_51 (by decide) ?_
          refine vx_ret ?_
          refine W.widen (k := 2) (n := 12) (by decide) (by decide) ?_
          exact W.iret (v := 3) hx hb hr (fun t ht _ => ⟨⟨_, (pl), rfl, ⟨a, _, ha, ea, hy, (up_self _ _).symm, Or.inr (Or.inr (Or.inl ⟨h34, h45, rfl, rfl⟩))⟩, by rw [ht]; exact hP, hD⟩, hS.F ht⟩) hS.2.2 dX1_put_52
      · skip
        refine lv_if_ne (tgt := 42) hx hb dX1_put_37 (by decide) (fun c37 => absurd c37 (by decide)) (fun c37 => ?_)
        refine lv_iconst (v := 2) hx hb dX1_put_40 (by decide) ?_
        refine vx_ret ?_
        refine W.widen (k := 2) (n := 12) (by decide) (by decide) ?_
        exact W.iret (v := 2) hx hb hr (fun t ht _ => ⟨⟨_, (pl), rfl, ⟨a, _, ha, ea, hy, (up_self _ _).symm, Or.inr (Or.inl ⟨h24, h34, rfl, rfl⟩)⟩, by rw [ht]; exact hP, hD⟩, hS.F ht⟩) hS.2.2 dX1_put_41
  · skip
    refine lv_aload_n hx hb dX1_put_9 rfl (lv_at hl 0 rfl) ?_
    refine lv_iload_n hx hb dX1_put_10 rfl (lv_at hl 3 rfl) ?_
    refine vx_callv (vx_runV (As := [.int y]) (rest := []) ⟨hx, hb, hml, hown, hts⟩ (c_X1_requirePerson l D ci ad z F hf ft fk fp n mk sz pl y hlt hN) (cwV 1 hts gX1_put_X1_requirePerson rfl rfl rfl (by decide +kernel) ⟨Nat.le_of_ble_eq_true rfl, Nat.le_of_ble_eq_true rfl⟩) ⟨WD.fb, (va_recv hK hP (ci := 1) (q0 := 0) rfl rfl), fun U hU hW => ⟨rfl, WD.call hP hD hK hE hS hU hW⟩⟩ rfl rfl hl.1 rfl (lv_room (Nat.le_of_ble_eq_true rfl)) dX1_put_11 ⟨Nat.le_of_ble_eq_true rfl, Nat.le_of_ble_eq_true rfl⟩) hS (fun q _ h => h) (fun q h => h) (fun q _ h => h) (fun E11 ce11 qx11 u11 t11 H locs ht11 hvm11 hpx11 hB11 hz11 hk11 hS hce11 hcv11 hcl11 => ?_) (fun u11 t11 H locs ht11 hvm11 hw11 hB11 hz11 hk11 hS => ?_)
    · skip
      obtain ⟨hph, hP, hD⟩ := hB11
      rw [ht11] at hP
      exact vx_out (hex0 _) hlocks hce11 hcv11 hcl11 (XT.out hP hD hS (Or.inr ⟨hph.1, hok, c6, hph.2⟩)) hS.2.2 (by decide) (by decide)
    obtain ⟨hP, hD⟩ := hB11
    rw [ht11] at hP
    have hy : y = -1 ∨ ∃ k, k < n ∧ y = nI k := Or.inr hw11
    refine lv_aload_n hx hb dX1_put_14 rfl (lv_at hl 0 rfl) ?_
    refine va_get (D := D) (ci := 1) (C := RX1) (T := TX1) (N := 7) hx hb hts hin1 hown hK hP 0 rfl rfl 1 (by decide) (hts (.fieldLink RX1 18 "DutyRota" "hooks" "[LDutyRota$Sheet;") (by decide +kernel)) (fun _ h9 => h9) rfl dX1_put_15 ?_
    refine lv_iload_n hx hb dX1_put_18 rfl (lv_at hl 1 rfl) ?_
    refine rw_rld hx hb hK hP 1 2 rfl rfl (j := a) (ea) (ha) (by decide) rfl dX1_put_19 ?_
    refine lv_astore (lv' := [(4, .ref (ad (10 + (hf a)))), (0, .ref (ad 0)), (1, .int x), (2, .int i), (3, .int y)]) hx hb dX1_put_20 hl (by decide) rfl (fun ls hl => ?_)
    refine lv_aload hx hb dX1_put_22 (lv_at hl 0 rfl) ?_
    refine vp_callSi (toCR (va_runVN (As := []) (rest := []) ⟨hx, hb, hml, hown, hts⟩ (c_X0_isNothing l D ci ad z F hf ft fk fp n mk sz pl (hf a)  (hHF a ha) ) ⟨va_cnB 0 hts gX1_put_X0_isNothing_n67 rfl rfl rfl (hE.nM (by decide +kernel)) (hts (.initialized RX0) (by decide +kernel)) (by decide +kernel) ⟨Nat.le_of_ble_eq_true rfl, Nat.le_of_ble_eq_true rfl⟩, hts (.instanceMethod yX0_isNothing) (by decide +kernel), hts (.selects RX0 yX0_isNothing yX0_isNothing) (by decide +kernel)⟩ ⟨WD.fb, (va_recv hK hP (ci := 0) (q0 := 6 + (hf a)) rfl (wC_sh (hHF a ha))), fun U hU hW => ⟨rfl, WD.call hP hD hK hE hS hU hW⟩⟩ rfl rfl hl.1 rfl (lv_room (Nat.le_of_ble_eq_true rfl)) dX1_put_24 ⟨Nat.le_of_ble_eq_true rfl, Nat.le_of_ble_eq_true rfl⟩)) (fun r24 hw24 => ?_)
    rcases hw24 with ⟨rfl, h24⟩ | ⟨rfl, h24⟩
    · skip
      refine lv_if_eq (tgt := 32) hx hb dX1_put_27 (by decide) (fun c27 => absurd c27 (by decide)) (fun c27 => ?_)
      refine lv_iconst (v := 1) hx hb dX1_put_30 (by decide) ?_
      refine vx_ret ?_
      exact W.iret (v := 1) hx hb hr (fun t ht _ => ⟨⟨_, (pl), rfl, ⟨a, _, ha, ea, hy, (up_self _ _).symm, Or.inl ⟨h24, rfl, rfl⟩⟩, by rw [ht]; exact hP, hD⟩, hS.F ht⟩) hS.2.2 dX1_put_31
    · skip
      refine lv_if_eq (tgt := 32) hx hb dX1_put_27 (by decide) (fun c27 => ?_) (fun c27 => absurd c27 (by decide))
      refine lv_aload hx hb dX1_put_32 (lv_at hl 0 rfl) ?_
      refine vp_callSi (toCR (va_runVN (As := []) (rest := []) ⟨hx, hb, hml, hown, hts⟩ (c_X0_isRoster l D ci ad z F hf ft fk fp n mk sz pl (hf a)  (hHF a ha) ) ⟨va_cnB 0 hts gX1_put_X0_isRoster_n71 rfl rfl rfl (hE.nM (by decide +kernel)) (hts (.initialized RX0) (by decide +kernel)) (by decide +kernel) ⟨Nat.le_of_ble_eq_true rfl, Nat.le_of_ble_eq_true rfl⟩, hts (.instanceMethod yX0_isRoster) (by decide +kernel), hts (.selects RX0 yX0_isRoster yX0_isRoster) (by decide +kernel)⟩ ⟨WD.fb, (va_recv hK hP (ci := 0) (q0 := 6 + (hf a)) rfl (wC_sh (hHF a ha))), fun U hU hW => ⟨rfl, WD.call hP hD hK hE hS hU hW⟩⟩ rfl rfl hl.1 rfl (lv_room (Nat.le_of_ble_eq_true rfl)) dX1_put_34 ⟨Nat.le_of_ble_eq_true rfl, Nat.le_of_ble_eq_true rfl⟩)) (fun r34 hw34 => ?_)
      rcases hw34 with ⟨rfl, h34⟩ | ⟨rfl, h34⟩
      · skip
        refine lv_if_ne (tgt := 42) hx hb dX1_put_37 (by decide) (fun c37 => ?_) (fun c37 => absurd c37 (by decide))
        refine lv_aload hx hb dX1_put_42 (lv_at hl 0 rfl) ?_
        refine lv_iload_n hx hb dX1_put_44 rfl (lv_at hl 3 rfl) ?_
        refine vp_callSi (toCR (va_runVN (As := [.int i]) (rest := []) ⟨hx, hb, hml, hown, hts⟩ (c_X0_hasPlace l D ci ad z F hf ft fk fp n mk sz pl (hf a) i (hHF a ha) (hSZ _ (hHF a ha))) ⟨va_cnB 1 hts gX1_put_X0_hasPlace_n74 rfl rfl rfl (hE.nM (by decide +kernel)) (hts (.initialized RX0) (by decide +kernel)) (by decide +kernel) ⟨Nat.le_of_ble_eq_true rfl, Nat.le_of_ble_eq_true rfl⟩, hts (.instanceMethod yX0_hasPlace) (by decide +kernel), hts (.selects RX0 yX0_hasPlace yX0_hasPlace) (by decide +kernel)⟩ ⟨WD.fb, (va_recv hK hP (ci := 0) (q0 := 6 + (hf a)) rfl (wC_sh (hHF a ha))), fun U hU hW => ⟨rfl, WD.call hP hD hK hE hS hU hW⟩⟩ rfl rfl hl.1 rfl (lv_room (Nat.le_of_ble_eq_true rfl)) dX1_put_45 ⟨Nat.le_of_ble_eq_true rfl, Nat.le_of_ble_eq_true rfl⟩)) (fun r45 hw45 => ?_)
        rcases hw45 with ⟨rfl, h45⟩ | ⟨rfl, h45⟩
        · skip
          obtain ⟨k, hk, ek⟩ := h45
          have h9 : hf a < 9 := lt9 h9s (hHF a ha) hk
          have hs40 := hSZ _ (hHF a ha)
          refine lv_if_ne (tgt := 53) hx hb dX1_put_48 (by decide) (fun c48 => ?_) (fun c48 => absurd c48 (by decide))
          refine lv_aload_n hx hb dX1_put_53 rfl (lv_at hl 1 rfl) ?_
          refine lv_aload hx hb dX1_put_54 (lv_at hl 0 rfl) ?_
          refine lv_iload_n hx hb dX1_put_56 rfl (lv_at hl 4 rfl) ?_
          refine lv_i2l hx hb dX1_put_57 rfl ?_
          refine vp_callSi (W.runV (As := [.ref (ad (10 + (hf a))), .long y.toInt64]) (rest := []) ⟨hx, hb, hml, hown, hts⟩ (c_X1_takes l D ci ad z F hf ft fk fp n mk sz pl (hf a) y.toInt64 (hHF a ha) hN) (cwV 2 hts gX1_put_X1_takes rfl rfl rfl (by decide +kernel) ⟨Nat.le_of_ble_eq_true rfl, Nat.le_of_ble_eq_true rfl⟩) ⟨WD.fb, (va_recv hK hP (ci := 1) (q0 := 0) rfl rfl), fun U hU hW => ⟨rfl, WD.call hP hD hK hE hS hU hW⟩⟩ rfl rfl hl.1 rfl (lv_room (Nat.le_of_ble_eq_true rfl)) dX1_put_58 ⟨Nat.le_of_ble_eq_true rfl, Nat.le_of_ble_eq_true rfl⟩) (fun r58 hw58 => ?_)
          rcases hw58 with ⟨rfl, h58⟩ | ⟨rfl, h58⟩
          · skip
            refine lv_if_ne (tgt := 66) hx hb dX1_put_61 (by decide) (fun c61 => ?_) (fun c61 => absurd c61 (by decide))
            refine lv_aload hx hb dX1_put_66 (lv_at hl 0 rfl) ?_
            refine va_getN (D := D) (ci := 0) (C := RX0) (T := TX0) (N := 3) hx hb hts hin0 hown hK hP (6 + (hf a)) (wC_sh (hHF a ha)) rfl 0 (by decide) (hE.nF (by decide +kernel)) (fun _ h9 => h9) rfl dX1_put_68 ?_
            refine lv_iload_n hx hb dX1_put_71 rfl (lv_at hl 3 rfl) ?_
            refine lv_iload_n hx hb dX1_put_72 rfl (lv_at hl 4 rfl) ?_
            refine lv_i2l hx hb dX1_put_73 rfl ?_
            refine rw_lst hx hb hK hP hD hS (16 + (hf a)) 1 (wC_pl h9) rfl (j := k) (ek) (by omega) (by decide) (ws' := wC ci ad hf ft fk fp n mk sz (va_up pl (hf a) (vp_updL (pl (hf a)) k y.toInt64)) ++ F) (wC_set_pl h9 _) dX1_put_74 (fun H locs hP hD hS => ?_)
            refine lv_iconst (v := 0) hx hb dX1_put_75 (by decide) ?_
            refine vx_ret ?_
            exact W.iret (v := 0) hx hb hr (fun t ht _ => ⟨⟨_, ((va_up pl (hf a) (vp_updL (pl (hf a)) k y.toInt64))), rfl, ⟨a, _, ha, ea, hy, rfl, Or.inr (Or.inr (Or.inr ⟨h34, k, hk, ek, Or.inr ⟨h58, rfl, rfl⟩⟩))⟩, by rw [ht]; exact hP, hD⟩, hS.F ht⟩) hS.2.2 dX1_put_76
          · skip
            refine lv_if_ne (tgt := 66) hx hb dX1_put_61 (by decide) (fun c61 => absurd c61 (by decide)) (fun c61 => ?_)
            refine lv_iconst (v := 2) hx hb dX1_put_64 (by decide) ?_
            refine vx_ret ?_
            exact W.iret (v := 2) hx hb hr (fun t ht _ => ⟨⟨_, (pl), rfl, ⟨a, _, ha, ea, hy, (up_self _ _).symm, Or.inr (Or.inr (Or.inr ⟨h34, k, hk, ek, Or.inl ⟨h58, rfl, rfl⟩⟩))⟩, by rw [ht]; exact hP, hD⟩, hS.F ht⟩) hS.2.2 dX1_put_65
        · skip
          refine lv_if_ne (tgt := 53) hx hb dX1_put_48 (by decide) (fun c48 => absurd c48 (by decide)) (fun c48 => ?_)
          refine lv_iconst (v := 3) hx hb dX1_put_51 (by decide) ?_
          refine vx_ret ?_
          exact W.iret (v := 3) hx hb hr (fun t ht _ => ⟨⟨_, (pl), rfl, ⟨a, _, ha, ea, hy, (up_self _ _).symm, Or.inr (Or.inr (Or.inl ⟨h34, h45, rfl, rfl⟩))⟩, by rw [ht]; exact hP, hD⟩, hS.F ht⟩) hS.2.2 dX1_put_52
      · skip
        refine lv_if_ne (tgt := 42) hx hb dX1_put_37 (by decide) (fun c37 => absurd c37 (by decide)) (fun c37 => ?_)
        refine lv_iconst (v := 2) hx hb dX1_put_40 (by decide) ?_
        refine vx_ret ?_
        exact W.iret (v := 2) hx hb hr (fun t ht _ => ⟨⟨_, (pl), rfl, ⟨a, _, ha, ea, hy, (up_self _ _).symm, Or.inr (Or.inl ⟨h24, h34, rfl, rfl⟩)⟩, by rw [ht]; exact hP, hD⟩, hS.F ht⟩) hS.2.2 dX1_put_41
set_option maxHeartbeats 4000000 in
set_option maxRecDepth 100000 in
theorem c_X1_note (l : Launch) (D : va_G) (ci : Nat → ClassId) (ad : Nat → Nat) (z : Nat) (F : va_W) (hf : Nat → Nat) (ft : Nat → Int64) (fk : Nat → Int32) (fp : Nat → Int64) (n : Nat) (mk : Nat → Int32) (sz : Nat → Nat) (pl : Nat → Nat → Int64) (x i : Int32) (v : Int64) (hlt : l.stackTraces = false) (hHF : ∀ h, h < 8 → hf h < 10) (hSZ : ∀ i, i < 10 → sz i ≤ 40) (h9s : sz 9 = 0) (h9m : mk 9 = 6) (hN : n ≤ 60) (hKD : ∀ k, k < n → ∃ q, q < 3 ∧ fk k = nI q) : vx_Met l yX1_note wsX1_note ({ frames := 7, cells := 1, slots := 6, locals := 110 }) (va_Pc [.ref (ad 0), .int x, .int i, .long v] (fun U => WD D ci ad z (wC ci ad hf ft fk fp n mk sz pl ++ F) U)) (va_Qi (fun (r : Int32) (u : Nat → Nat → Int64) => ∃ a f, a < 8 ∧ x = nI a ∧ u = va_up pl (hf a) f ∧ noteP (mk (hf a)) (sz (hf a)) (pl (hf a)) i v r f) (fun u t => va_P D vwCl (wC ci ad hf ft fk fp n mk sz u ++ F) t.heap ∧ va_D (LA z) (wC ci ad hf ft fk fp n mk sz u ++ F)) (LA z)) (XT D z (wC ci ad hf ft fk fp n mk sz pl ++ F) (fun E => E = iaeN ∧ badH x)) 1 6 (LA z) := by
  refine vx_ofW (cc := cX1_note) (maxL := 6) (ret := (some .int)) (by decide) rfl ?_
  intro p e s m args below meth c s₁ B hml hex hv
  obtain ⟨rfl, hP, hD, hK, hE⟩ := hv
  have hx := B.exec
  have hb := B.bytes
  have hr := B.returns
  have hts := atoms_spec (ws := wsX1_note) B.pre
  have hown : s.vm.findClass RX1 = some m.cls := findClass_of_methodNamed B.named
  have hlocks := B.notSynchronized
  have hS : va_S (LA z) s.heap s.heap [] := va_S.rf
  have hex0 : ∀ (j : Nat), ∀ x ∈ c.exceptionTable.toList, covers x j = false := fun _ x hx => (hex x hx).elim
  have hin0 : ∀ w ∈ wsX00, w ∈ wsX1_note := by decide +kernel
  have hin1 : ∀ w ∈ wsX10, w ∈ wsX1_note := by decide +kernel
  have hl := lv_entry ([.ref (ad 0), .int x, .int i, .long v]) (n := 6) (Nat.le_of_ble_eq_true rfl)
  rw [lg_entry_eq]
  generalize (lg_sl ([.ref (ad 0), .int x, .int i, .long v]) ++ List.replicate (6 - (lg_sl ([.ref (ad 0), .int x, .int i, .long v])).length) Slot.unset).toArray = ls at hl ⊢
  have hl : lv_has ls 6 [(0, .ref (ad 0)), (1, .int x), (2, .int i), (3, .long v)] := hl
  refine lv_iload_n hx hb dX1_note_0 rfl (lv_at hl 1 rfl) ?_
  refine vx_callv (vx_runS (As := [.int x]) (rest := []) ⟨hx, hb, hml, hown, hts⟩ (c_X1_requireHook l D ci ad z F hf ft fk fp n mk sz pl x hlt ) (va_cwS 1 hts gX1_note_X1_requireHook rfl rfl rfl (by decide +kernel) ⟨Nat.le_of_ble_eq_true rfl, Nat.le_of_ble_eq_true rfl⟩) ⟨WD.fb, fun U hU hW => ⟨rfl, WD.call hP hD hK hE hS hU hW⟩⟩ rfl rfl hl.1 rfl (lv_room (Nat.le_of_ble_eq_true rfl)) dX1_note_1 ⟨Nat.le_of_ble_eq_true rfl, Nat.le_of_ble_eq_true rfl⟩) hS (fun q _ h => h) (fun q h => h) (fun q _ h => h) (fun E1 ce1 qx1 u1 t1 H locs ht1 hvm1 hpx1 hB1 hz1 hk1 hS hce1 hcv1 hcl1 => ?_) (fun u1 t1 H locs ht1 hvm1 hw1 hB1 hz1 hk1 hS => ?_)
  · skip
    obtain ⟨hph, hP, hD⟩ := hB1
    rw [ht1] at hP
    exact vx_out (hex0 _) hlocks hce1 hcv1 hcl1 (XT.out hP hD hS (hph)) hS.2.2 (by decide) (by decide)
  obtain ⟨hP, hD⟩ := hB1
  rw [ht1] at hP
  obtain ⟨a, ha, ea⟩ := hw1
  refine lv_aload_n hx hb dX1_note_4 rfl (lv_at hl 0 rfl) ?_
  refine va_get (D := D) (ci := 1) (C := RX1) (T := TX1) (N := 7) hx hb hts hin1 hown hK hP 0 rfl rfl 1 (by decide) (hts (.fieldLink RX1 18 "DutyRota" "hooks" "[LDutyRota$Sheet;") (by decide +kernel)) (fun _ h9 => h9) rfl dX1_note_5 ?_
  refine lv_iload_n hx hb dX1_note_8 rfl (lv_at hl 1 rfl) ?_
  refine rw_rld hx hb hK hP 1 2 rfl rfl (j := a) (ea) (ha) (by decide) rfl dX1_note_9 ?_
  refine lv_astore (lv' := [(5, .ref (ad (10 + (hf a)))), (0, .ref (ad 0)), (1, .int x), (2, .int i), (3, .long v)]) hx hb dX1_note_10 hl (by decide) rfl (fun ls hl => ?_)
  refine lv_aload hx hb dX1_note_12 (lv_at hl 0 rfl) ?_
  refine vp_callSi (toCR (va_runVN (As := []) (rest := []) ⟨hx, hb, hml, hown, hts⟩ (c_X0_isNothing l D ci ad z F hf ft fk fp n mk sz pl (hf a)  (hHF a ha) ) ⟨va_cnB 0 hts gX1_note_X0_isNothing_n67 rfl rfl rfl (hE.nM (by decide +kernel)) (hts (.initialized RX0) (by decide +kernel)) (by decide +kernel) ⟨Nat.le_of_ble_eq_true rfl, Nat.le_of_ble_eq_true rfl⟩, hts (.instanceMethod yX0_isNothing) (by decide +kernel), hts (.selects RX0 yX0_isNothing yX0_isNothing) (by decide +kernel)⟩ ⟨WD.fb, (va_recv hK hP (ci := 0) (q0 := 6 + (hf a)) rfl (wC_sh (hHF a ha))), fun U hU hW => ⟨rfl, WD.call hP hD hK hE hS hU hW⟩⟩ rfl rfl hl.1 rfl (lv_room (Nat.le_of_ble_eq_true rfl)) dX1_note_14 ⟨Nat.le_of_ble_eq_true rfl, Nat.le_of_ble_eq_true rfl⟩)) (fun r14 hw14 => ?_)
  rcases hw14 with ⟨rfl, h14⟩ | ⟨rfl, h14⟩
  · skip
    refine lv_if_eq (tgt := 22) hx hb dX1_note_17 (by decide) (fun c17 => absurd c17 (by decide)) (fun c17 => ?_)
    refine lv_iconst (v := 1) hx hb dX1_note_20 (by decide) ?_
    refine vx_ret ?_
    exact W.iret (v := 1) hx hb hr (fun t ht _ => ⟨⟨_, (pl), rfl, ⟨a, _, ha, ea, (up_self _ _).symm, Or.inl ⟨h14, rfl, rfl⟩⟩, by rw [ht]; exact hP, hD⟩, hS.F ht⟩) hS.2.2 dX1_note_21
  · skip
    refine lv_if_eq (tgt := 22) hx hb dX1_note_17 (by decide) (fun c17 => ?_) (fun c17 => absurd c17 (by decide))
    refine lv_aload hx hb dX1_note_22 (lv_at hl 0 rfl) ?_
    refine va_getN (D := D) (ci := 0) (C := RX0) (T := TX0) (N := 3) hx hb hts hin0 hown hK hP (6 + (hf a)) (wC_sh (hHF a ha)) rfl 1 (by decide) (hE.nF (by decide +kernel)) (fun _ h9 => h9) rfl dX1_note_24 ?_
    refine lv_iconst (v := 3) hx hb dX1_note_27 (by decide) ?_
    refine lv_icmp_eq (tgt := 42) hx hb dX1_note_28 (by decide) (fun c28 => ?_) (fun c28 => ?_)
    · skip
      have hm : mk (hf a) = 3 ∨ mk (hf a) = 4 := Or.inl c28
      refine lv_aload hx hb dX1_note_42 (lv_at hl 0 rfl) ?_
      refine lv_iload_n hx hb dX1_note_44 rfl (lv_at hl 3 rfl) ?_
      refine vp_callSi (toCR (va_runVN (As := [.int i]) (rest := []) ⟨hx, hb, hml, hown, hts⟩ (c_X0_hasPlace l D ci ad z F hf ft fk fp n mk sz pl (hf a) i (hHF a ha) (hSZ _ (hHF a ha))) ⟨va_cnB 1 hts gX1_note_X0_hasPlace_n74 rfl rfl rfl (hE.nM (by decide +kernel)) (hts (.initialized RX0) (by decide +kernel)) (by decide +kernel) ⟨Nat.le_of_ble_eq_true rfl, Nat.le_of_ble_eq_true rfl⟩, hts (.instanceMethod yX0_hasPlace) (by decide +kernel), hts (.selects RX0 yX0_hasPlace yX0_hasPlace) (by decide +kernel)⟩ ⟨WD.fb, (va_recv hK hP (ci := 0) (q0 := 6 + (hf a)) rfl (wC_sh (hHF a ha))), fun U hU hW => ⟨rfl, WD.call hP hD hK hE hS hU hW⟩⟩ rfl rfl hl.1 rfl (lv_room (Nat.le_of_ble_eq_true rfl)) dX1_note_45 ⟨Nat.le_of_ble_eq_true rfl, Nat.le_of_ble_eq_true rfl⟩)) (fun r45 hw45 => ?_)
      rcases hw45 with ⟨rfl, h45⟩ | ⟨rfl, h45⟩
      · skip
        obtain ⟨k, hk, ek⟩ := h45
        have h9 : hf a < 9 := lt9 h9s (hHF a ha) hk
        have hs40 := hSZ _ (hHF a ha)
        refine lv_if_ne (tgt := 53) hx hb dX1_note_48 (by decide) (fun c48 => ?_) (fun c48 => absurd c48 (by decide))
        refine lv_aload hx hb dX1_note_53 (lv_at hl 0 rfl) ?_
        refine va_getN (D := D) (ci := 0) (C := RX0) (T := TX0) (N := 3) hx hb hts hin0 hown hK hP (6 + (hf a)) (wC_sh (hHF a ha)) rfl 0 (by decide) (hE.nF (by decide +kernel)) (fun _ h9 => h9) rfl dX1_note_55 ?_
        refine lv_iload_n hx hb dX1_note_58 rfl (lv_at hl 3 rfl) ?_
        refine lv_aload hx hb dX1_note_59 (lv_at hl 0 rfl) ?_
        refine va_getN (D := D) (ci := 0) (C := RX0) (T := TX0) (N := 3) hx hb hts hin0 hown hK hP (6 + (hf a)) (wC_sh (hHF a ha)) rfl 1 (by decide) (hE.nF (by decide +kernel)) (fun _ h9 => h9) rfl dX1_note_61 ?_
        refine lv_iconst (v := 3) hx hb dX1_note_64 (by decide) ?_
        refine lv_icmp_ne (tgt := 74) hx hb dX1_note_65 (by decide) (fun c65 => ?_) (fun c65 => ?_)
        · skip
          refine lv_lload_n hx hb dX1_note_74 rfl (lv_at hl 4 rfl) ?_
          refine rw_topl (y := if mk (hf a) = 3 then v.toInt32.toInt64 else v) ((if_neg c65).symm) ?_
          refine rw_lst hx hb hK hP hD hS (16 + (hf a)) 1 (wC_pl h9) rfl (j := k) (ek) (by omega) (by decide) (ws' := wC ci ad hf ft fk fp n mk sz (va_up pl (hf a) (vp_updL (pl (hf a)) k (if mk (hf a) = 3 then v.toInt32.toInt64 else v))) ++ F) (wC_set_pl h9 _) dX1_note_75 (fun H locs hP hD hS => ?_)
          refine lv_iconst (v := 0) hx hb dX1_note_76 (by decide) ?_
          refine vx_ret ?_
          exact W.iret (v := 0) hx hb hr (fun t ht _ => ⟨⟨_, ((va_up pl (hf a) (vp_updL (pl (hf a)) k (if mk (hf a) = 3 then v.toInt32.toInt64 else v)))), rfl, ⟨a, _, ha, ea, rfl, Or.inr (Or.inr (Or.inr ⟨hm, k, hk, ek, rfl, rfl⟩))⟩, by rw [ht]; exact hP, hD⟩, hS.F ht⟩) hS.2.2 dX1_note_77
        · skip
          refine lv_lload_n hx hb dX1_note_68 rfl (lv_at hl 4 rfl) ?_
          refine lv_l2i hx hb dX1_note_69 rfl ?_
          refine lv_i2l hx hb dX1_note_70 rfl ?_
          refine lv_goto (tgt := 75) hx hb dX1_note_71 (by decide) ?_
          refine rw_topl (y := if mk (hf a) = 3 then v.toInt32.toInt64 else v) ((if_pos c65).symm) ?_
          refine rw_lst hx hb hK hP hD hS (16 + (hf a)) 1 (wC_pl h9) rfl (j := k) (ek) (by omega) (by decide) (ws' := wC ci ad hf ft fk fp n mk sz (va_up pl (hf a) (vp_updL (pl (hf a)) k (if mk (hf a) = 3 then v.toInt32.toInt64 else v))) ++ F) (wC_set_pl h9 _) dX1_note_75 (fun H locs hP hD hS => ?_)
          refine lv_iconst (v := 0) hx hb dX1_note_76 (by decide) ?_
          refine vx_ret ?_
          exact W.iret (v := 0) hx hb hr (fun t ht _ => ⟨⟨_, ((va_up pl (hf a) (vp_updL (pl (hf a)) k (if mk (hf a) = 3 then v.toInt32.toInt64 else v)))), rfl, ⟨a, _, ha, ea, rfl, Or.inr (Or.inr (Or.inr ⟨hm, k, hk, ek, rfl, rfl⟩))⟩, by rw [ht]; exact hP, hD⟩, hS.F ht⟩) hS.2.2 dX1_note_77
      · skip
        refine lv_if_ne (tgt := 53) hx hb dX1_note_48 (by decide) (fun c48 => absurd c48 (by decide)) (fun c48 => ?_)
        refine lv_iconst (v := 3) hx hb dX1_note_51 (by decide) ?_
        refine vx_ret ?_
        exact W.iret (v := 3) hx hb hr (fun t ht _ => ⟨⟨_, (pl), rfl, ⟨a, _, ha, ea, (up_self _ _).symm, Or.inr (Or.inr (Or.inl ⟨hm, h45, rfl, rfl⟩))⟩, by rw [ht]; exact hP, hD⟩, hS.F ht⟩) hS.2.2 dX1_note_52
    · skip
      refine lv_aload hx hb dX1_note_31 (lv_at hl 0 rfl) ?_
      refine va_getN (D := D) (ci := 0) (C := RX0) (T := TX0) (N := 3) hx hb hts hin0 hown hK hP (6 + (hf a)) (wC_sh (hHF a ha)) rfl 1 (by decide) (hE.nF (by decide +kernel)) (fun _ h9 => h9) rfl dX1_note_33 ?_
      refine lv_iconst (v := 4) hx hb dX1_note_36 (by decide) ?_
      refine lv_icmp_eq (tgt := 42) hx hb dX1_note_37 (by decide) (fun c37 => ?_) (fun c37 => ?_)
      · skip
        have hm : mk (hf a) = 3 ∨ mk (hf a) = 4 := Or.inr c37
        refine lv_aload hx hb dX1_note_42 (lv_at hl 0 rfl) ?_
        refine lv_iload_n hx hb dX1_note_44 rfl (lv_at hl 3 rfl) ?_
        refine vp_callSi (toCR (va_runVN (As := [.int i]) (rest := []) ⟨hx, hb, hml, hown, hts⟩ (c_X0_hasPlace l D ci ad z F hf ft fk fp n mk sz pl (hf a) i (hHF a ha) (hSZ _ (hHF a ha))) ⟨va_cnB 1 hts gX1_note_X0_hasPlace_n74 rfl rfl rfl (hE.nM (by decide +kernel)) (hts (.initialized RX0) (by decide +kernel)) (by decide +kernel) ⟨Nat.le_of_ble_eq_true rfl, Nat.le_of_ble_eq_true rfl⟩, hts (.instanceMethod yX0_hasPlace) (by decide +kernel), hts (.selects RX0 yX0_hasPlace yX0_hasPlace) (by decide +kernel)⟩ ⟨WD.fb, (va_recv hK hP (ci := 0) (q0 := 6 + (hf a)) rfl (wC_sh (hHF a ha))), fun U hU hW => ⟨rfl, WD.call hP hD hK hE hS hU hW⟩⟩ rfl rfl hl.1 rfl (lv_room (Nat.le_of_ble_eq_true rfl)) dX1_note_45 ⟨Nat.le_of_ble_eq_true rfl, Nat.le_of_ble_eq_true rfl⟩)) (fun r45 hw45 => ?_)
        rcases hw45 with ⟨rfl, h45⟩ | ⟨rfl, h45⟩
        · skip
          obtain ⟨k, hk, ek⟩ := h45
          have h9 : hf a < 9 := lt9 h9s (hHF a ha) hk
          have hs40 := hSZ _ (hHF a ha)
          refine lv_if_ne (tgt := 53) hx hb dX1_note_48 (by decide) (fun c48 => ?_) (fun c48 => absurd c48 (by decide))
          refine lv_aload hx hb dX1_note_53 (lv_at hl 0 rfl) ?_
          refine va_getN (D := D) (ci := 0) (C := RX0) (T := TX0) (N := 3) hx hb hts hin0 hown hK hP (6 + (hf a)) (wC_sh (hHF a ha)) rfl 0 (by decide) (hE.nF (by decide +kernel)) (fun _ h9 => h9) rfl dX1_note_55 ?_
          refine lv_iload_n hx hb dX1_note_58 rfl (lv_at hl 3 rfl) ?_
          refine lv_aload hx hb dX1_note_59 (lv_at hl 0 rfl) ?_
          refine va_getN (D := D) (ci := 0) (C := RX0) (T := TX0) (N := 3) hx hb hts hin0 hown hK hP (6 + (hf a)) (wC_sh (hHF a ha)) rfl 1 (by decide) (hE.nF (by decide +kernel)) (fun _ h9 => h9) rfl dX1_note_61 ?_
          refine lv_iconst (v := 3) hx hb dX1_note_64 (by decide) ?_
          refine lv_icmp_ne (tgt := 74) hx hb dX1_note_65 (by decide) (fun c65 => ?_) (fun c65 => ?_)
          · skip
            refine lv_lload_n hx hb dX1_note_74 rfl (lv_at hl 4 rfl) ?_
            refine rw_topl (y := if mk (hf a) = 3 then v.toInt32.toInt64 else v) ((if_neg c65).symm) ?_
            refine rw_lst hx hb hK hP hD hS (16 + (hf a)) 1 (wC_pl h9) rfl (j := k) (ek) (by omega) (by decide) (ws' := wC ci ad hf ft fk fp n mk sz (va_up pl (hf a) (vp_updL (pl (hf a)) k (if mk (hf a) = 3 then v.toInt32.toInt64 else v))) ++ F) (wC_set_pl h9 _) dX1_note_75 (fun H locs hP hD hS => ?_)
            refine lv_iconst (v := 0) hx hb dX1_note_76 (by decide) ?_
            refine vx_ret ?_
            exact W.iret (v := 0) hx hb hr (fun t ht _ => ⟨⟨_, ((va_up pl (hf a) (vp_updL (pl (hf a)) k (if mk (hf a) = 3 then v.toInt32.toInt64 else v)))), rfl, ⟨a, _, ha, ea, rfl, Or.inr (Or.inr (Or.inr ⟨hm, k, hk, ek, rfl, rfl⟩))⟩, by rw [ht]; exact hP, hD⟩, hS.F ht⟩) hS.2.2 dX1_note_77
          · skip
            refine lv_lload_n hx hb dX1_note_68 rfl (lv_at hl 4 rfl) ?_
            refine lv_l2i hx hb dX1_note_69 rfl ?_
            refine lv_i2l hx hb dX1_note_70 rfl ?_
            refine lv_goto (tgt := 75) hx hb dX1_note_71 (by decide) ?_
            refine rw_topl (y := if mk (hf a) = 3 then v.toInt32.toInt64 else v) ((if_pos c65).symm) ?_
            refine rw_lst hx hb hK hP hD hS (16 + (hf a)) 1 (wC_pl h9) rfl (j := k) (ek) (by omega) (by decide) (ws' := wC ci ad hf ft fk fp n mk sz (va_up pl (hf a) (vp_updL (pl (hf a)) k (if mk (hf a) = 3 then v.toInt32.toInt64 else v))) ++ F) (wC_set_pl h9 _) dX1_note_75 (fun H locs hP hD hS => ?_)
            refine lv_iconst (v := 0) hx hb dX1_note_76 (by decide) ?_
            refine vx_ret ?_
            exact W.iret (v := 0) hx hb hr (fun t ht _ => ⟨⟨_, ((va_up pl (hf a) (vp_updL (pl (hf a)) k (if mk (hf a) = 3 then v.toInt32.toInt64 else v)))), rfl, ⟨a, _, ha, ea, rfl, Or.inr (Or.inr (Or.inr ⟨hm, k, hk, ek, rfl, rfl⟩))⟩, by rw [ht]; exact hP, hD⟩, hS.F ht⟩) hS.2.2 dX1_note_77
        · skip
          refine lv_if_ne (tgt := 53) hx hb dX1_note_48 (by decide) (fun c48 => absurd c48 (by decide)) (fun c48 => ?_)
          refine lv_iconst (v := 3) hx hb dX1_note_51 (by decide) ?_
          refine vx_ret ?_
          exact W.iret (v := 3) hx hb hr (fun t ht _ => ⟨⟨_, (pl), rfl, ⟨a, _, ha, ea, (up_self _ _).symm, Or.inr (Or.inr (Or.inl ⟨hm, h45, rfl, rfl⟩))⟩, by rw [ht]; exact hP, hD⟩, hS.F ht⟩) hS.2.2 dX1_note_52
      · skip
        refine lv_iconst (v := 2) hx hb dX1_note_40 (by decide) ?_
        refine vx_ret ?_
        exact W.iret (v := 2) hx hb hr (fun t ht _ => ⟨⟨_, (pl), rfl, ⟨a, _, ha, ea, (up_self _ _).symm, Or.inr (Or.inl ⟨h14, c28, c37, rfl, rfl⟩)⟩, by rw [ht]; exact hP, hD⟩, hS.F ht⟩) hS.2.2 dX1_note_41
set_option maxHeartbeats 4000000 in
set_option maxRecDepth 100000 in
theorem c_X1_copy (l : Launch) (D : va_G) (ci : Nat → ClassId) (ad : Nat → Nat) (z : Nat) (F : va_W) (hf : Nat → Nat) (ft : Nat → Int64) (fk : Nat → Int32) (fp : Nat → Int64) (n : Nat) (mk : Nat → Int32) (sz : Nat → Nat) (pl : Nat → Nat → Int64) (x i y j k : Int32) (hlt : l.stackTraces = false) (hHF : ∀ h, h < 8 → hf h < 10) (hSZ : ∀ i, i < 10 → sz i ≤ 40) (h9s : sz 9 = 0) (h9m : mk 9 = 6) (hN : n ≤ 60) (hKD : ∀ k, k < n → ∃ q, q < 3 ∧ fk k = nI q) : vx_Met l yX1_copy wsX1_copy ({ frames := 7, cells := 2, slots := 12, locals := 110 }) (va_Pc [.ref (ad 0), .int x, .int i, .int y, .int j, .int k] (fun U => WD D ci ad z (wC ci ad hf ft fk fp n mk sz pl ++ F) U)) (va_Qi (fun (r : Int32) (u : (Nat → Int64) × (Nat → Nat → Int64)) => ∃ a b f, a < 8 ∧ b < 8 ∧ x = nI a ∧ y = nI b ∧ u.2 = va_up pl (hf b) f ∧ cpV (mk (hf a)) (mk (hf b)) (sz (hf a)) (sz (hf b)) (pl (hf a)) (pl (hf b)) fk n i j k r f) (fun u t => va_P D vwCl (wC ci ad hf u.1 fk fp n mk sz u.2 ++ F) t.heap ∧ va_D (LA z) (wC ci ad hf u.1 fk fp n mk sz u.2 ++ F)) (LA z)) (XT D z (wC ci ad hf ft fk fp n mk sz pl ++ F) (fun E => E = iaeN ∧ (badH x ∨ badH y))) 2 12 (LA z) := by
  refine vx_ofW (cc := cX1_copy) (maxL := 6) (ret := (some .int)) (by decide) rfl ?_
  intro p e s m args below meth c s₁ B hml hex hv
  obtain ⟨rfl, hP, hD, hK, hE⟩ := hv
  have hx := B.exec
  have hb := B.bytes
  have hr := B.returns
  have hts := atoms_spec (ws := wsX1_copy) B.pre
  have hown : s.vm.findClass RX1 = some m.cls := findClass_of_methodNamed B.named
  have hlocks := B.notSynchronized
  have hS : va_S (LA z) s.heap s.heap [] := va_S.rf
  have hex0 : ∀ (j : Nat), ∀ x ∈ c.exceptionTable.toList, covers x j = false := fun _ x hx => (hex x hx).elim
  have hin1 : ∀ w ∈ wsX10, w ∈ wsX1_copy := by decide +kernel
  have hl := lv_entry ([.ref (ad 0), .int x, .int i, .int y, .int j, .int k]) (n := 6) (Nat.le_of_ble_eq_true rfl)
  rw [lg_entry_eq]
  generalize (lg_sl ([.ref (ad 0), .int x, .int i, .int y, .int j, .int k]) ++ List.replicate (6 - (lg_sl ([.ref (ad 0), .int x, .int i, .int y, .int j, .int k])).length) Slot.unset).toArray = ls at hl ⊢
  have hl : lv_has ls 6 [(0, .ref (ad 0)), (1, .int x), (2, .int i), (3, .int y), (4, .int j), (5, .int k)] := hl
  refine lv_iload_n hx hb dX1_copy_0 rfl (lv_at hl 1 rfl) ?_
  refine vx_callv (vx_runS (As := [.int x]) (rest := []) ⟨hx, hb, hml, hown, hts⟩ (c_X1_requireHook l D ci ad z F hf ft fk fp n mk sz pl x hlt ) (va_cwS 1 hts gX1_copy_X1_requireHook rfl rfl rfl (by decide +kernel) ⟨Nat.le_of_ble_eq_true rfl, Nat.le_of_ble_eq_true rfl⟩) ⟨WD.fb, fun U hU hW => ⟨rfl, WD.call hP hD hK hE hS hU hW⟩⟩ rfl rfl hl.1 rfl (lv_room (Nat.le_of_ble_eq_true rfl)) dX1_copy_1 ⟨Nat.le_of_ble_eq_true rfl, Nat.le_of_ble_eq_true rfl⟩) hS (fun q _ h => h) (fun q h => h) (fun q _ h => h) (fun E1 ce1 qx1 u1 t1 H locs ht1 hvm1 hpx1 hB1 hz1 hk1 hS hce1 hcv1 hcl1 => ?_) (fun u1 t1 H locs ht1 hvm1 hw1 hB1 hz1 hk1 hS => ?_)
  · skip
    obtain ⟨hph, hP, hD⟩ := hB1
    rw [ht1] at hP
    exact vx_out (hex0 _) hlocks hce1 hcv1 hcl1 (XT.out hP hD hS (⟨hph.1, Or.inl hph.2⟩)) hS.2.2 (by decide) (by decide)
  obtain ⟨hP, hD⟩ := hB1
  rw [ht1] at hP
  obtain ⟨a, ha, ea⟩ := hw1
  refine lv_iload_n hx hb dX1_copy_4 rfl (lv_at hl 3 rfl) ?_
  refine vx_callv (vx_runS (As := [.int y]) (rest := []) ⟨hx, hb, hml, hown, hts⟩ (c_X1_requireHook l D ci ad z F hf ft fk fp n mk sz pl y hlt ) (va_cwS 1 hts gX1_copy_X1_requireHook rfl rfl rfl (by decide +kernel) ⟨Nat.le_of_ble_eq_true rfl, Nat.le_of_ble_eq_true rfl⟩) ⟨WD.fb, fun U hU hW => ⟨rfl, WD.call hP hD hK hE hS hU hW⟩⟩ rfl rfl hl.1 rfl (lv_room (Nat.le_of_ble_eq_true rfl)) dX1_copy_5 ⟨Nat.le_of_ble_eq_true rfl, Nat.le_of_ble_eq_true rfl⟩) hS (fun q _ h => h) (fun q h => h) (fun q _ h => h) (fun E5 ce5 qx5 u5 t5 H locs ht5 hvm5 hpx5 hB5 hz5 hk5 hS hce5 hcv5 hcl5 => ?_) (fun u5 t5 H locs ht5 hvm5 hw5 hB5 hz5 hk5 hS => ?_)
  · skip
    obtain ⟨hph, hP, hD⟩ := hB5
    rw [ht5] at hP
    exact vx_out (hex0 _) hlocks hce5 hcv5 hcl5 (XT.out hP hD hS (⟨hph.1, Or.inr hph.2⟩)) hS.2.2 (by decide) (by decide)
  obtain ⟨hP, hD⟩ := hB5
  rw [ht5] at hP
  obtain ⟨b, hb8, eb⟩ := hw5
  refine lv_aload_n hx hb dX1_copy_8 rfl (lv_at hl 0 rfl) ?_
  refine lv_aload_n hx hb dX1_copy_9 rfl (lv_at hl 0 rfl) ?_
  refine va_get (D := D) (ci := 1) (C := RX1) (T := TX1) (N := 7) hx hb hts hin1 hown hK hP 0 rfl rfl 1 (by decide) (hts (.fieldLink RX1 18 "DutyRota" "hooks" "[LDutyRota$Sheet;") (by decide +kernel)) (fun _ h9 => h9) rfl dX1_copy_10 ?_
  refine lv_iload_n hx hb dX1_copy_13 rfl (lv_at hl 1 rfl) ?_
  refine rw_rld hx hb hK hP 1 2 rfl rfl (j := a) (ea) (ha) (by decide) rfl dX1_copy_14 ?_
  refine lv_iload_n hx hb dX1_copy_15 rfl (lv_at hl 2 rfl) ?_
  refine lv_aload_n hx hb dX1_copy_16 rfl (lv_at hl 0 rfl) ?_
  refine va_get (D := D) (ci := 1) (C := RX1) (T := TX1) (N := 7) hx hb hts hin1 hown hK hP 0 rfl rfl 1 (by decide) (hts (.fieldLink RX1 18 "DutyRota" "hooks" "[LDutyRota$Sheet;") (by decide +kernel)) (fun _ h9 => h9) rfl dX1_copy_17 ?_
  refine lv_iload_n hx hb dX1_copy_20 rfl (lv_at hl 3 rfl) ?_
  refine rw_rld hx hb hK hP 1 2 rfl rfl (j := b) (eb) (hb8) (by decide) rfl dX1_copy_21 ?_
  refine lv_iload hx hb dX1_copy_22 (lv_at hl 4 rfl) ?_
  refine lv_iload hx hb dX1_copy_24 (lv_at hl 5 rfl) ?_
  refine va_calli (va_runV (As := [.ref (ad (10 + (hf a))), .int i, .ref (ad (10 + (hf b))), .int j, .int k]) (rest := []) ⟨hx, hb, hml, hown, hts⟩ (c_X1_copySpan l D ci ad z F hf ft fk fp n mk sz pl (hf a) i (hf b) j k (hHF a ha) (hHF b hb8) hN hSZ h9m) (cwV 5 hts gX1_copy_X1_copySpan rfl rfl rfl (by decide +kernel) ⟨Nat.le_of_ble_eq_true rfl, Nat.le_of_ble_eq_true rfl⟩) ⟨WD.fb, (va_recv hK hP (ci := 1) (q0 := 0) rfl rfl), fun U hU hW => ⟨rfl, WD.call hP hD hK hE hS hU hW⟩⟩ rfl rfl hl.1 rfl (lv_room (Nat.le_of_ble_eq_true rfl)) dX1_copy_26 ⟨Nat.le_of_ble_eq_true rfl, Nat.le_of_ble_eq_true rfl⟩) hS (fun q _ h => h) (fun q h => h) (fun r26 u26 t26 H locs ht26 hvm26 hw26 hB26 hz26 hk26 hS => ?_)
  obtain ⟨hP, hD⟩ := hB26
  rw [ht26] at hP
  obtain ⟨ft26, pl26⟩ := u26
  try dsimp only at hw26 hP hD
  obtain ⟨f, hf1, hf2⟩ := cpP_V hw26
  refine vx_ret ?_
  exact W.iret (v := r26) hx hb hr (fun t ht _ => ⟨⟨_, (ft26, pl26), rfl, ⟨a, b, f, ha, hb8, ea, eb, hf1, hf2⟩, by rw [ht]; exact hP, hD⟩, hS.F ht⟩) hS.2.2 dX1_copy_29
set_option maxHeartbeats 4000000 in
set_option maxRecDepth 100000 in
theorem c_X1_join (l : Launch) (D : va_G) (ci : Nat → ClassId) (ad : Nat → Nat) (z : Nat) (F : va_W) (hf : Nat → Nat) (ft : Nat → Int64) (fk : Nat → Int32) (fp : Nat → Int64) (n : Nat) (mk : Nat → Int32) (sz : Nat → Nat) (pl : Nat → Nat → Int64) (x y t : Int32) (hlt : l.stackTraces = false) (hHF : ∀ h, h < 8 → hf h < 10) (hSZ : ∀ i, i < 10 → sz i ≤ 40) (h9s : sz 9 = 0) (h9m : mk 9 = 6) (hN : n ≤ 60) (hKD : ∀ k, k < n → ∃ q, q < 3 ∧ fk k = nI q) : vx_Met l yX1_join wsX1_join ({ frames := 7, cells := 3, slots := 18, locals := 110 }) (va_Pc [.ref (ad 0), .int x, .int y, .int t] (fun U => WD D ci ad z (wC ci ad hf ft fk fp n mk sz pl ++ F) U)) (va_Qi (fun (r : Int32) (u : (Nat → Int64) × (Nat → Nat → Int64)) => ∃ a b d f1 r1, a < 8 ∧ b < 8 ∧ d < 8 ∧ x = nI a ∧ y = nI b ∧ t = nI d ∧ cpV (mk (hf a)) (mk (hf d)) (sz (hf a)) (sz (hf d)) (pl (hf a)) (pl (hf d)) fk n 0 0 (nI (sz (hf a))) r1 f1 ∧ ((¬ r1 = 0 ∧ r = r1 ∧ u.2 = va_up pl (hf d) f1) ∨ (r1 = 0 ∧ ∃ f2, u.2 = va_up (va_up pl (hf d) f1) (hf d) f2 ∧ cpV (mk (hf b)) (mk (hf d)) (sz (hf b)) (sz (hf d)) (va_up pl (hf d) f1 (hf b)) (va_up pl (hf d) f1 (hf d)) fk n 0 (nI (sz (hf a))) (nI (sz (hf b))) r f2))) (fun u t => va_P D vwCl (wC ci ad hf u.1 fk fp n mk sz u.2 ++ F) t.heap ∧ va_D (LA z) (wC ci ad hf u.1 fk fp n mk sz u.2 ++ F)) (LA z)) (XT D z (wC ci ad hf ft fk fp n mk sz pl ++ F) (fun E => E = iaeN ∧ (badH x ∨ badH y ∨ badH t))) 3 18 (LA z) := by
  refine vx_ofW (cc := cX1_join) (maxL := 8) (ret := (some .int)) (by decide) rfl ?_
  intro p e s m args below meth c s₁ B hml hex hv
  obtain ⟨rfl, hP, hD, hK, hE⟩ := hv
  have hx := B.exec
  have hb := B.bytes
  have hr := B.returns
  have hts := atoms_spec (ws := wsX1_join) B.pre
  have hown : s.vm.findClass RX1 = some m.cls := findClass_of_methodNamed B.named
  have hlocks := B.notSynchronized
  have hS : va_S (LA z) s.heap s.heap [] := va_S.rf
  have hex0 : ∀ (j : Nat), ∀ x ∈ c.exceptionTable.toList, covers x j = false := fun _ x hx => (hex x hx).elim
  have hin0 : ∀ w ∈ wsX00, w ∈ wsX1_join := by decide +kernel
  have hin1 : ∀ w ∈ wsX10, w ∈ wsX1_join := by decide +kernel
  have hl := lv_entry ([.ref (ad 0), .int x, .int y, .int t]) (n := 8) (Nat.le_of_ble_eq_true rfl)
  rw [lg_entry_eq]
  generalize (lg_sl ([.ref (ad 0), .int x, .int y, .int t]) ++ List.replicate (8 - (lg_sl ([.ref (ad 0), .int x, .int y, .int t])).length) Slot.unset).toArray = ls at hl ⊢
  have hl : lv_has ls 8 [(0, .ref (ad 0)), (1, .int x), (2, .int y), (3, .int t)] := hl
  refine lv_iload_n hx hb dX1_join_0 rfl (lv_at hl 1 rfl) ?_
  refine vx_callv (vx_runS (As := [.int x]) (rest := []) ⟨hx, hb, hml, hown, hts⟩ (c_X1_requireHook l D ci ad z F hf ft fk fp n mk sz pl x hlt ) (va_cwS 1 hts gX1_join_X1_requireHook rfl rfl rfl (by decide +kernel) ⟨Nat.le_of_ble_eq_true rfl, Nat.le_of_ble_eq_true rfl⟩) ⟨WD.fb, fun U hU hW => ⟨rfl, WD.call hP hD hK hE hS hU hW⟩⟩ rfl rfl hl.1 rfl (lv_room (Nat.le_of_ble_eq_true rfl)) dX1_join_1 ⟨Nat.le_of_ble_eq_true rfl, Nat.le_of_ble_eq_true rfl⟩) hS (fun q _ h => h) (fun q h => h) (fun q _ h => h) (fun E1 ce1 qx1 u1 t1 H locs ht1 hvm1 hpx1 hB1 hz1 hk1 hS hce1 hcv1 hcl1 => ?_) (fun u1 t1 H locs ht1 hvm1 hw1 hB1 hz1 hk1 hS => ?_)
  · skip
    obtain ⟨hph, hP, hD⟩ := hB1
    rw [ht1] at hP
    exact vx_out (hex0 _) hlocks hce1 hcv1 hcl1 (XT.out hP hD hS (⟨hph.1, Or.inl hph.2⟩)) hS.2.2 (by decide) (by decide)
  obtain ⟨hP, hD⟩ := hB1
  rw [ht1] at hP
  obtain ⟨a, ha, ea⟩ := hw1
  refine lv_iload_n hx hb dX1_join_4 rfl (lv_at hl 2 rfl) ?_
  refine vx_callv (vx_runS (As := [.int y]) (rest := []) ⟨hx, hb, hml, hown, hts⟩ (c_X1_requireHook l D ci ad z F hf ft fk fp n mk sz pl y hlt ) (va_cwS 1 hts gX1_join_X1_requireHook rfl rfl rfl (by decide +kernel) ⟨Nat.le_of_ble_eq_true rfl, Nat.le_of_ble_eq_true rfl⟩) ⟨WD.fb, fun U hU hW => ⟨rfl, WD.call hP hD hK hE hS hU hW⟩⟩ rfl rfl hl.1 rfl (lv_room (Nat.le_of_ble_eq_true rfl)) dX1_join_5 ⟨Nat.le_of_ble_eq_true rfl, Nat.le_of_ble_eq_true rfl⟩) hS (fun q _ h => h) (fun q h => h) (fun q _ h => h) (fun E5 ce5 qx5 u5 t5 H locs ht5 hvm5 hpx5 hB5 hz5 hk5 hS hce5 hcv5 hcl5 => ?_) (fun u5 t5 H locs ht5 hvm5 hw5 hB5 hz5 hk5 hS => ?_)
  · skip
    obtain ⟨hph, hP, hD⟩ := hB5
    rw [ht5] at hP
    exact vx_out (hex0 _) hlocks hce5 hcv5 hcl5 (XT.out hP hD hS (⟨hph.1, Or.inr (Or.inl hph.2)⟩)) hS.2.2 (by decide) (by decide)
  obtain ⟨hP, hD⟩ := hB5
  rw [ht5] at hP
  obtain ⟨b, hb8, eb⟩ := hw5
  refine lv_iload_n hx hb dX1_join_8 rfl (lv_at hl 3 rfl) ?_
  refine vx_callv (vx_runS (As := [.int t]) (rest := []) ⟨hx, hb, hml, hown, hts⟩ (c_X1_requireHook l D ci ad z F hf ft fk fp n mk sz pl t hlt ) (va_cwS 1 hts gX1_join_X1_requireHook rfl rfl rfl (by decide +kernel) ⟨Nat.le_of_ble_eq_true rfl, Nat.le_of_ble_eq_true rfl⟩) ⟨WD.fb, fun U hU hW => ⟨rfl, WD.call hP hD hK hE hS hU hW⟩⟩ rfl rfl hl.1 rfl (lv_room (Nat.le_of_ble_eq_true rfl)) dX1_join_9 ⟨Nat.le_of_ble_eq_true rfl, Nat.le_of_ble_eq_true rfl⟩) hS (fun q _ h => h) (fun q h => h) (fun q _ h => h) (fun E9 ce9 qx9 u9 t9 H locs ht9 hvm9 hpx9 hB9 hz9 hk9 hS hce9 hcv9 hcl9 => ?_) (fun u9 t9 H locs ht9 hvm9 hw9 hB9 hz9 hk9 hS => ?_)
  · skip
    obtain ⟨hph, hP, hD⟩ := hB9
    rw [ht9] at hP
    exact vx_out (hex0 _) hlocks hce9 hcv9 hcl9 (XT.out hP hD hS (⟨hph.1, Or.inr (Or.inr hph.2)⟩)) hS.2.2 (by decide) (by decide)
  obtain ⟨hP, hD⟩ := hB9
  rw [ht9] at hP
  obtain ⟨d, hd8, ed⟩ := hw9
  refine lv_aload_n hx hb dX1_join_12 rfl (lv_at hl 0 rfl) ?_
  refine va_get (D := D) (ci := 1) (C := RX1) (T := TX1) (N := 7) hx hb hts hin1 hown hK hP 0 rfl rfl 1 (by decide) (hts (.fieldLink RX1 18 "DutyRota" "hooks" "[LDutyRota$Sheet;") (by decide +kernel)) (fun _ h9 => h9) rfl dX1_join_13 ?_
  refine lv_iload_n hx hb dX1_join_16 rfl (lv_at hl 1 rfl) ?_
  refine rw_rld hx hb hK hP 1 2 rfl rfl (j := a) (ea) (ha) (by decide) rfl dX1_join_17 ?_
  refine lv_astore (lv' := [(4, .ref (ad (10 + (hf a)))), (0, .ref (ad 0)), (1, .int x), (2, .int y), (3, .int t)]) hx hb dX1_join_18 hl (by decide) rfl (fun ls hl => ?_)
  refine lv_aload_n hx hb dX1_join_20 rfl (lv_at hl 1 rfl) ?_
  refine va_get (D := D) (ci := 1) (C := RX1) (T := TX1) (N := 7) hx hb hts hin1 hown hK hP 0 rfl rfl 1 (by decide) (hts (.fieldLink RX1 18 "DutyRota" "hooks" "[LDutyRota$Sheet;") (by decide +kernel)) (fun _ h9 => h9) rfl dX1_join_21 ?_
  refine lv_iload_n hx hb dX1_join_24 rfl (lv_at hl 3 rfl) ?_
  refine rw_rld hx hb hK hP 1 2 rfl rfl (j := b) (eb) (hb8) (by decide) rfl dX1_join_25 ?_
  refine lv_astore (lv' := [(5, .ref (ad (10 + (hf b)))), (4, .ref (ad (10 + (hf a)))), (0, .ref (ad 0)), (1, .int x), (2, .int y), (3, .int t)]) hx hb dX1_join_26 hl (by decide) rfl (fun ls hl => ?_)
  refine lv_aload_n hx hb dX1_join_28 rfl (lv_at hl 2 rfl) ?_
  refine va_get (D := D) (ci := 1) (C := RX1) (T := TX1) (N := 7) hx hb hts hin1 hown hK hP 0 rfl rfl 1 (by decide) (hts (.fieldLink RX1 18 "DutyRota" "hooks" "[LDutyRota$Sheet;") (by decide +kernel)) (fun _ h9 => h9) rfl dX1_join_29 ?_
  refine lv_iload_n hx hb dX1_join_32 rfl (lv_at hl 5 rfl) ?_
  refine rw_rld hx hb hK hP 1 2 rfl rfl (j := d) (ed) (hd8) (by decide) rfl dX1_join_33 ?_
  refine lv_astore (lv' := [(6, .ref (ad (10 + (hf d)))), (5, .ref (ad (10 + (hf b)))), (4, .ref (ad (10 + (hf a)))), (0, .ref (ad 0)), (1, .int x), (2, .int y), (3, .int t)]) hx hb dX1_join_34 hl (by decide) rfl (fun ls hl => ?_)
  refine lv_aload_n hx hb dX1_join_36 rfl (lv_at hl 3 rfl) ?_
  refine lv_aload hx hb dX1_join_37 (lv_at hl 2 rfl) ?_
  refine lv_iconst (v := 0) hx hb dX1_join_39 (by decide) ?_
  refine lv_aload hx hb dX1_join_40 (lv_at hl 0 rfl) ?_
  refine lv_iconst (v := 0) hx hb dX1_join_42 (by decide) ?_
  refine lv_aload hx hb dX1_join_43 (lv_at hl 2 rfl) ?_
  refine va_getN (D := D) (ci := 0) (C := RX0) (T := TX0) (N := 3) hx hb hts hin0 hown hK hP (6 + (hf a)) (wC_sh (hHF a ha)) rfl 2 (by decide) (hE.nF (by decide +kernel)) (fun _ h9 => h9) rfl dX1_join_45 ?_
  refine va_calli (va_runV (As := [.ref (ad (10 + (hf a))), .int 0, .ref (ad (10 + (hf d))), .int 0, .int (nI (sz (hf a)))]) (rest := []) ⟨hx, hb, hml, hown, hts⟩ (c_X1_copySpan l D ci ad z F hf ft fk fp n mk sz pl (hf a) 0 (hf d) 0 (nI (sz (hf a))) (hHF a ha) (hHF d hd8) hN hSZ h9m) (cwV 5 hts gX1_join_X1_copySpan rfl rfl rfl (by decide +kernel) ⟨Nat.le_of_ble_eq_true rfl, Nat.le_of_ble_eq_true rfl⟩) ⟨WD.fb, (va_recv hK hP (ci := 1) (q0 := 0) rfl rfl), fun U hU hW => ⟨rfl, WD.call hP hD hK hE hS hU hW⟩⟩ rfl rfl hl.1 rfl (lv_room (Nat.le_of_ble_eq_true rfl)) dX1_join_48 ⟨Nat.le_of_ble_eq_true rfl, Nat.le_of_ble_eq_true rfl⟩) hS (fun q _ h => h) (fun q h => h) (fun r48 u48 t48 H locs ht48 hvm48 hw48 hB48 hz48 hk48 hS => ?_)
  obtain ⟨hP, hD⟩ := hB48
  rw [ht48] at hP
  obtain ⟨ft48, pl48⟩ := u48
  try dsimp only at hw48 hP hD
  obtain ⟨f1, hf1, hf2⟩ := cpP_V hw48
  subst hf1
  refine lv_istore (lv' := [(7, .int r48), (6, .ref (ad (10 + (hf d)))), (5, .ref (ad (10 + (hf b)))), (4, .ref (ad (10 + (hf a)))), (0, .ref (ad 0)), (1, .int x), (2, .int y), (3, .int t)]) hx hb dX1_join_51 hl (by decide) rfl (fun ls hl => ?_)
  refine lv_iload hx hb dX1_join_53 (lv_at hl 0 rfl) ?_
  refine lv_if_eq (tgt := 61) hx hb dX1_join_55 (by decide) (fun c55 => ?_) (fun c55 => ?_)
  · skip
    refine lv_aload_n hx hb dX1_join_61 rfl (lv_at hl 4 rfl) ?_
    refine lv_aload hx hb dX1_join_62 (lv_at hl 2 rfl) ?_
    refine lv_iconst (v := 0) hx hb dX1_join_64 (by decide) ?_
    refine lv_aload hx hb dX1_join_65 (lv_at hl 1 rfl) ?_
    refine lv_aload hx hb dX1_join_67 (lv_at hl 3 rfl) ?_
    refine va_getN (D := D) (ci := 0) (C := RX0) (T := TX0) (N := 3) hx hb hts hin0 hown hK hP (6 + (hf a)) (wC_sh (hHF a ha)) rfl 2 (by decide) (hE.nF (by decide +kernel)) (fun _ h9 => h9) rfl dX1_join_69 ?_
    refine lv_aload hx hb dX1_join_72 (lv_at hl 2 rfl) ?_
    refine va_getN (D := D) (ci := 0) (C := RX0) (T := TX0) (N := 3) hx hb hts hin0 hown hK hP (6 + (hf b)) (wC_sh (hHF b hb8)) rfl 2 (by decide) (hE.nF (by decide +kernel)) (fun _ h9 => h9) rfl dX1_join_74 ?_
    refine va_calli (va_runV (As := [.ref (ad (10 + (hf b))), .int 0, .ref (ad (10 + (hf d))), .int (nI (sz (hf a))), .int (nI (sz (hf b)))]) (rest := []) ⟨hx, hb, hml, hown, hts⟩ (c_X1_copySpan l D ci ad z F hf ft48 fk fp n mk sz (va_up pl (hf d) f1) (hf b) 0 (hf d) (nI (sz (hf a))) (nI (sz (hf b))) (hHF b hb8) (hHF d hd8) hN hSZ h9m) (cwV 5 hts gX1_join_X1_copySpan rfl rfl rfl (by decide +kernel) ⟨Nat.le_of_ble_eq_true rfl, Nat.le_of_ble_eq_true rfl⟩) ⟨WD.fb, (va_recv hK hP (ci := 1) (q0 := 0) rfl rfl), fun U hU hW => ⟨rfl, WD.call hP hD hK hE hS hU hW⟩⟩ rfl rfl hl.1 rfl (lv_room (Nat.le_of_ble_eq_true rfl)) dX1_join_77 ⟨Nat.le_of_ble_eq_true rfl, Nat.le_of_ble_eq_true rfl⟩) hS (fun q _ h => h) (fun q h => h) (fun r77 u77 t77 H locs ht77 hvm77 hw77 hB77 hz77 hk77 hS => ?_)
    obtain ⟨hP, hD⟩ := hB77
    rw [ht77] at hP
    obtain ⟨ft77, pl77⟩ := u77
    try dsimp only at hw77 hP hD
    obtain ⟨f2, hg1, hg2⟩ := cpP_V hw77
    refine vx_ret ?_
    exact W.iret (v := r77) hx hb hr (fun t ht _ => ⟨⟨_, (ft77, pl77), rfl, ⟨a, b, d, f1, r48, ha, hb8, hd8, ea, eb, ed, hf2, Or.inr ⟨c55, f2, hg1, hg2⟩⟩, by rw [ht]; exact hP, hD⟩, hS.F ht⟩) hS.2.2 dX1_join_80
  · skip
    refine lv_iload hx hb dX1_join_58 (lv_at hl 0 rfl) ?_
    refine vx_ret ?_
    exact W.iret (v := r48) hx hb hr (fun t ht _ => ⟨⟨_, (ft48, (va_up pl (hf d) f1)), rfl, ⟨a, b, d, f1, r48, ha, hb8, hd8, ea, eb, ed, hf2, Or.inl ⟨c55, rfl, rfl⟩⟩, by rw [ht]; exact hP, hD⟩, hS.F ht⟩) hS.2.2 dX1_join_60
set_option maxHeartbeats 4000000 in
set_option maxRecDepth 100000 in
theorem c_X1_slide (l : Launch) (D : va_G) (ci : Nat → ClassId) (ad : Nat → Nat) (z : Nat) (F : va_W) (hf : Nat → Nat) (ft : Nat → Int64) (fk : Nat → Int32) (fp : Nat → Int64) (n : Nat) (mk : Nat → Int32) (sz : Nat → Nat) (pl : Nat → Nat → Int64) (x i k : Int32) (hlt : l.stackTraces = false) (hHF : ∀ h, h < 8 → hf h < 10) (hSZ : ∀ i, i < 10 → sz i ≤ 40) (h9s : sz 9 = 0) (h9m : mk 9 = 6) (hN : n ≤ 60) (hKD : ∀ k, k < n → ∃ q, q < 3 ∧ fk k = nI q) : vx_Met l yX1_slide wsX1_slide ({ frames := 7, cells := 1, slots := 6, locals := 110 }) (va_Pc [.ref (ad 0), .int x, .int i, .int k] (fun U => WD D ci ad z (wC ci ad hf ft fk fp n mk sz pl ++ F) U)) (va_Qi (fun (r : Int32) (u : Nat → Nat → Int64) => ∃ a f, a < 8 ∧ x = nI a ∧ u = va_up pl (hf a) f ∧ slideP (mk (hf a)) (sz (hf a)) (pl (hf a)) i k r f) (fun u t => va_P D vwCl (wC ci ad hf ft fk fp n mk sz u ++ F) t.heap ∧ va_D (LA z) (wC ci ad hf ft fk fp n mk sz u ++ F)) (LA z)) (XT D z (wC ci ad hf ft fk fp n mk sz pl ++ F) (fun E => E = iaeN ∧ badH x)) 1 6 (LA z) := by
  refine vx_ofW (cc := cX1_slide) (maxL := 7) (ret := (some .int)) (by decide) rfl ?_
  intro p e s m args below meth c s₁ B hml hex hv
  obtain ⟨rfl, hP, hD, hK, hE⟩ := hv
  have hx := B.exec
  have hb := B.bytes
  have hr := B.returns
  have hts := atoms_spec (ws := wsX1_slide) B.pre
  have hown : s.vm.findClass RX1 = some m.cls := findClass_of_methodNamed B.named
  have hlocks := B.notSynchronized
  have hS : va_S (LA z) s.heap s.heap [] := va_S.rf
  have hex0 : ∀ (j : Nat), ∀ x ∈ c.exceptionTable.toList, covers x j = false := fun _ x hx => (hex x hx).elim
  have hin0 : ∀ w ∈ wsX00, w ∈ wsX1_slide := by decide +kernel
  have hin1 : ∀ w ∈ wsX10, w ∈ wsX1_slide := by decide +kernel
  have hl := lv_entry ([.ref (ad 0), .int x, .int i, .int k]) (n := 7) (Nat.le_of_ble_eq_true rfl)
  rw [lg_entry_eq]
  generalize (lg_sl ([.ref (ad 0), .int x, .int i, .int k]) ++ List.replicate (7 - (lg_sl ([.ref (ad 0), .int x, .int i, .int k])).length) Slot.unset).toArray = ls at hl ⊢
  have hl : lv_has ls 7 [(0, .ref (ad 0)), (1, .int x), (2, .int i), (3, .int k)] := hl
  refine lv_iload_n hx hb dX1_slide_0 rfl (lv_at hl 1 rfl) ?_
  refine vx_callv (vx_runS (As := [.int x]) (rest := []) ⟨hx, hb, hml, hown, hts⟩ (c_X1_requireHook l D ci ad z F hf ft fk fp n mk sz pl x hlt ) (va_cwS 1 hts gX1_slide_X1_requireHook rfl rfl rfl (by decide +kernel) ⟨Nat.le_of_ble_eq_true rfl, Nat.le_of_ble_eq_true rfl⟩) ⟨WD.fb, fun U hU hW => ⟨rfl, WD.call hP hD hK hE hS hU hW⟩⟩ rfl rfl hl.1 rfl (lv_room (Nat.le_of_ble_eq_true rfl)) dX1_slide_1 ⟨Nat.le_of_ble_eq_true rfl, Nat.le_of_ble_eq_true rfl⟩) hS (fun q _ h => h) (fun q h => h) (fun q _ h => h) (fun E1 ce1 qx1 u1 t1 H locs ht1 hvm1 hpx1 hB1 hz1 hk1 hS hce1 hcv1 hcl1 => ?_) (fun u1 t1 H locs ht1 hvm1 hw1 hB1 hz1 hk1 hS => ?_)
  · skip
    obtain ⟨hph, hP, hD⟩ := hB1
    rw [ht1] at hP
    exact vx_out (hex0 _) hlocks hce1 hcv1 hcl1 (XT.out hP hD hS (hph)) hS.2.2 (by decide) (by decide)
  obtain ⟨hP, hD⟩ := hB1
  rw [ht1] at hP
  obtain ⟨a, ha, ea⟩ := hw1
  refine lv_aload_n hx hb dX1_slide_4 rfl (lv_at hl 0 rfl) ?_
  refine va_get (D := D) (ci := 1) (C := RX1) (T := TX1) (N := 7) hx hb hts hin1 hown hK hP 0 rfl rfl 1 (by decide) (hts (.fieldLink RX1 18 "DutyRota" "hooks" "[LDutyRota$Sheet;") (by decide +kernel)) (fun _ h9 => h9) rfl dX1_slide_5 ?_
  refine lv_iload_n hx hb dX1_slide_8 rfl (lv_at hl 1 rfl) ?_
  refine rw_rld hx hb hK hP 1 2 rfl rfl (j := a) (ea) (ha) (by decide) rfl dX1_slide_9 ?_
  refine lv_astore (lv' := [(4, .ref (ad (10 + (hf a)))), (0, .ref (ad 0)), (1, .int x), (2, .int i), (3, .int k)]) hx hb dX1_slide_10 hl (by decide) rfl (fun ls hl => ?_)
  refine lv_aload hx hb dX1_slide_12 (lv_at hl 0 rfl) ?_
  refine vp_callSi (toCR (va_runVN (As := []) (rest := []) ⟨hx, hb, hml, hown, hts⟩ (c_X0_isNothing l D ci ad z F hf ft fk fp n mk sz pl (hf a)  (hHF a ha) ) ⟨va_cnB 0 hts gX1_slide_X0_isNothing_n67 rfl rfl rfl (hE.nM (by decide +kernel)) (hts (.initialized RX0) (by decide +kernel)) (by decide +kernel) ⟨Nat.le_of_ble_eq_true rfl, Nat.le_of_ble_eq_true rfl⟩, hts (.instanceMethod yX0_isNothing) (by decide +kernel), hts (.selects RX0 yX0_isNothing yX0_isNothing) (by decide +kernel)⟩ ⟨WD.fb, (va_recv hK hP (ci := 0) (q0 := 6 + (hf a)) rfl (wC_sh (hHF a ha))), fun U hU hW => ⟨rfl, WD.call hP hD hK hE hS hU hW⟩⟩ rfl rfl hl.1 rfl (lv_room (Nat.le_of_ble_eq_true rfl)) dX1_slide_14 ⟨Nat.le_of_ble_eq_true rfl, Nat.le_of_ble_eq_true rfl⟩)) (fun r14 hw14 => ?_)
  rcases hw14 with ⟨rfl, h14⟩ | ⟨rfl, h14⟩
  · skip
    refine lv_if_eq (tgt := 22) hx hb dX1_slide_17 (by decide) (fun c17 => absurd c17 (by decide)) (fun c17 => ?_)
    refine lv_iconst (v := 1) hx hb dX1_slide_20 (by decide) ?_
    refine vx_ret ?_
    exact W.iret (v := 1) hx hb hr (fun t ht _ => ⟨⟨_, (pl), rfl, ⟨a, _, ha, ea, (up_self _ _).symm, Or.inl ⟨h14, rfl, rfl⟩⟩, by rw [ht]; exact hP, hD⟩, hS.F ht⟩) hS.2.2 dX1_slide_21
  · skip
    refine lv_if_eq (tgt := 22) hx hb dX1_slide_17 (by decide) (fun c17 => ?_) (fun c17 => absurd c17 (by decide))
    refine lv_aload hx hb dX1_slide_22 (lv_at hl 0 rfl) ?_
    refine vp_callSi (toCR (va_runVN (As := []) (rest := []) ⟨hx, hb, hml, hown, hts⟩ (c_X0_isRow l D ci ad z F hf ft fk fp n mk sz pl (hf a)  (hHF a ha) ) ⟨va_cnB 0 hts gX1_slide_X0_isRow_n89 rfl rfl rfl (hE.nM (by decide +kernel)) (hts (.initialized RX0) (by decide +kernel)) (by decide +kernel) ⟨Nat.le_of_ble_eq_true rfl, Nat.le_of_ble_eq_true rfl⟩, hts (.instanceMethod yX0_isRow) (by decide +kernel), hts (.selects RX0 yX0_isRow yX0_isRow) (by decide +kernel)⟩ ⟨WD.fb, (va_recv hK hP (ci := 0) (q0 := 6 + (hf a)) rfl (wC_sh (hHF a ha))), fun U hU hW => ⟨rfl, WD.call hP hD hK hE hS hU hW⟩⟩ rfl rfl hl.1 rfl (lv_room (Nat.le_of_ble_eq_true rfl)) dX1_slide_24 ⟨Nat.le_of_ble_eq_true rfl, Nat.le_of_ble_eq_true rfl⟩)) (fun r24 hw24 => ?_)
    rcases hw24 with ⟨rfl, h24⟩ | ⟨rfl, h24⟩
    · skip
      refine lv_if_ne (tgt := 32) hx hb dX1_slide_27 (by decide) (fun c27 => ?_) (fun c27 => absurd c27 (by decide))
      refine lv_iload_n hx hb dX1_slide_32 rfl (lv_at hl 3 rfl) ?_
      refine lv_i2l hx hb dX1_slide_33 rfl ?_
      refine lv_iload_n hx hb dX1_slide_34 rfl (lv_at hl 4 rfl) ?_
      refine lv_i2l hx hb dX1_slide_35 rfl ?_
      refine lv_ladd hx hb dX1_slide_36 ?_
      refine lv_topl (fun y_1 ey_1 => ?_)
      refine lv_lstore (lv' := [(5, .long y_1), (4, .ref (ad (10 + (hf a)))), (0, .ref (ad 0)), (1, .int x), (2, .int i), (3, .int k)]) hx hb dX1_slide_37 hl (by decide) rfl (fun ls hl => ?_)
      refine lv_iload_n hx hb dX1_slide_39 rfl (lv_at hl 4 rfl) ?_
      refine lv_if_lt (tgt := 71) hx hb dX1_slide_40 (by decide) (fun c40 => ?_) (fun c40 => ?_)
      · skip
        refine lv_iconst (v := 3) hx hb dX1_slide_71 (by decide) ?_
        refine vx_ret ?_
        exact W.iret (v := 3) hx hb hr (fun t ht _ => ⟨⟨_, (pl), rfl, ⟨a, _, ha, ea, (up_self _ _).symm, Or.inr (Or.inr (Or.inl ⟨h14, h24, Or.inl c40, rfl, rfl⟩))⟩, by rw [ht]; exact hP, hD⟩, hS.F ht⟩) hS.2.2 dX1_slide_72
      · skip
        refine lv_iload_n hx hb dX1_slide_43 rfl (lv_at hl 4 rfl) ?_
        refine lv_aload hx hb dX1_slide_44 (lv_at hl 1 rfl) ?_
        refine va_getN (D := D) (ci := 0) (C := RX0) (T := TX0) (N := 3) hx hb hts hin0 hown hK hP (6 + (hf a)) (wC_sh (hHF a ha)) rfl 2 (by decide) (hE.nF (by decide +kernel)) (fun _ h9 => h9) rfl dX1_slide_46 ?_
        refine lv_icmp_gt (tgt := 71) hx hb dX1_slide_49 (by decide) (fun c49 => ?_) (fun c49 => ?_)
        · skip
          refine lv_iconst (v := 3) hx hb dX1_slide_71 (by decide) ?_
          refine vx_ret ?_
          exact W.iret (v := 3) hx hb hr (fun t ht _ => ⟨⟨_, (pl), rfl, ⟨a, _, ha, ea, (up_self _ _).symm, Or.inr (Or.inr (Or.inl ⟨h14, h24, Or.inr (Or.inl c49), rfl, rfl⟩))⟩, by rw [ht]; exact hP, hD⟩, hS.F ht⟩) hS.2.2 dX1_slide_72
        · skip
          refine lv_lload hx hb dX1_slide_52 (lv_at hl 0 rfl) ?_
          refine lv_lconst (v := 0) hx hb dX1_slide_54 (by decide) ?_
          refine lv_lcmp3 hx hb dX1_slide_55 (fun x_2 ex_2 => ?_)
          refine lv_if_lt (tgt := 71) hx hb dX1_slide_56 (by decide) (fun c56 => ?_) (fun c56 => ?_)
          · skip
            refine lv_iconst (v := 3) hx hb dX1_slide_71 (by decide) ?_
            refine vx_ret ?_
            exact W.iret (v := 3) hx hb hr (fun t ht _ => ⟨⟨_, (pl), rfl, ⟨a, _, ha, ea, (up_self _ _).symm, Or.inr (Or.inr (Or.inl ⟨h14, h24, Or.inr (Or.inr (Or.inl (by rw [← ey_1]; exact lc_lt ex_2 c56))), rfl, rfl⟩))⟩, by rw [ht]; exact hP, hD⟩, hS.F ht⟩) hS.2.2 dX1_slide_72
          · skip
            refine lv_lload hx hb dX1_slide_59 (lv_at hl 0 rfl) ?_
            refine lv_aload hx hb dX1_slide_61 (lv_at hl 1 rfl) ?_
            refine va_getN (D := D) (ci := 0) (C := RX0) (T := TX0) (N := 3) hx hb hts hin0 hown hK hP (6 + (hf a)) (wC_sh (hHF a ha)) rfl 2 (by decide) (hE.nF (by decide +kernel)) (fun _ h9 => h9) rfl dX1_slide_63 ?_
            refine lv_i2l hx hb dX1_slide_66 rfl ?_
            refine lv_lcmp3 hx hb dX1_slide_67 (fun x_3 ex_3 => ?_)
            refine lv_if_le (tgt := 73) hx hb dX1_slide_68 (by decide) (fun c68 => ?_) (fun c68 => ?_)
            · skip
              have hs40 := hSZ _ (hHF a ha)
              have h9 : hf a < 9 := ne9 h9m (hHF a ha) h14
              obtain ⟨J, eJ, hJ, hsl1, hsl2⟩ := sl_in hs40 c40 c49 (by rw [← ey_1]; exact lc_nlt ex_2 c56) (by rw [← ey_1]; exact sl_ngt ex_3 c68)
              refine lv_iload_n hx hb dX1_slide_73 rfl (lv_at hl 5 rfl) ?_
              refine lv_if_lt (tgt := 87) hx hb dX1_slide_74 (by decide) (fun c74 => ?_) (fun c74 => ?_)
              · skip
                obtain ⟨B, eB, hB0, hBJ⟩ := hsl2 c74
                refine lv_aload hx hb dX1_slide_87 (lv_at hl 1 rfl) ?_
                refine lv_iload_n hx hb dX1_slide_89 rfl (lv_at hl 4 rfl) ?_
                refine rw_topi (y := (nI J)) (eJ) ?_
                refine lv_iload_n hx hb dX1_slide_90 rfl (lv_at hl 5 rfl) ?_
                refine lv_ineg hx hb dX1_slide_91 ?_
                refine rw_topi (y := (nI B)) (by rw [eB, Int32.neg_neg]) ?_
                refine va_callv (va_runS (As := [.ref (ad (10 + (hf a))), .int (nI J), .int (nI B)]) (rest := []) ⟨hx, hb, hml, hown, hts⟩ (c_X1_slideEarlier l D ci ad z F hf ft fk fp n mk sz pl (hf a) J B (hHF a ha) h9 hs40 hBJ hJ) (va_cwS 3 hts gX1_slide_X1_slideEarlier rfl rfl rfl (by decide +kernel) ⟨Nat.le_of_ble_eq_true rfl, Nat.le_of_ble_eq_true rfl⟩) ⟨WD.fb, fun U hU hW => ⟨rfl, WD.call hP hD hK hE hS hU hW⟩⟩ rfl rfl hl.1 rfl (lv_room (Nat.le_of_ble_eq_true rfl)) dX1_slide_92 ⟨Nat.le_of_ble_eq_true rfl, Nat.le_of_ble_eq_true rfl⟩) hS (fun q _ h => h) (fun q h => h) (fun u92 t92 H locs ht92 hvm92 hw92 hB92 hz92 hk92 hS => ?_)
                obtain ⟨hP, hD⟩ := hB92
                rw [ht92] at hP
                refine lv_iconst (v := 0) hx hb dX1_slide_95 (by decide) ?_
                refine vx_ret ?_
                exact W.iret (v := 0) hx hb hr (fun t ht _ => ⟨⟨_, (u92), rfl, ⟨a, _, ha, ea, hw92.trans (earlier_row hBJ hJ), Or.inr (Or.inr (Or.inr ⟨h14, h24, J, B, eJ, rfl, Or.inr ⟨eB, hB0, hBJ, hJ, rfl⟩⟩))⟩, by rw [ht]; exact hP, hD⟩, hS.F ht⟩) hS.2.2 dX1_slide_96
              · skip
                obtain ⟨B, eB, hBJ⟩ := hsl1 c74
                refine lv_aload hx hb dX1_slide_77 (lv_at hl 1 rfl) ?_
                refine lv_iload_n hx hb dX1_slide_79 rfl (lv_at hl 4 rfl) ?_
                refine rw_topi (y := (nI J)) (eJ) ?_
                refine lv_iload_n hx hb dX1_slide_80 rfl (lv_at hl 5 rfl) ?_
                refine rw_topi (y := (nI B)) (eB) ?_
                refine va_callv (va_runS (As := [.ref (ad (10 + (hf a))), .int (nI J), .int (nI B)]) (rest := []) ⟨hx, hb, hml, hown, hts⟩ (c_X1_slideLater l D ci ad z F hf ft fk fp n mk sz pl (hf a) J B (hHF a ha) h9 hs40 hBJ) (va_cwS 3 hts gX1_slide_X1_slideLater rfl rfl rfl (by decide +kernel) ⟨Nat.le_of_ble_eq_true rfl, Nat.le_of_ble_eq_true rfl⟩) ⟨WD.fb, fun U hU hW => ⟨rfl, WD.call hP hD hK hE hS hU hW⟩⟩ rfl rfl hl.1 rfl (lv_room (Nat.le_of_ble_eq_true rfl)) dX1_slide_81 ⟨Nat.le_of_ble_eq_true rfl, Nat.le_of_ble_eq_true rfl⟩) hS (fun q _ h => h) (fun q h => h) (fun u81 t81 H locs ht81 hvm81 hw81 hB81 hz81 hk81 hS => ?_)
                obtain ⟨hP, hD⟩ := hB81
                rw [ht81] at hP
                refine lv_goto (tgt := 95) hx hb dX1_slide_84 (by decide) ?_
                refine lv_iconst (v := 0) hx hb dX1_slide_95 (by decide) ?_
                refine vx_ret ?_
                exact W.iret (v := 0) hx hb hr (fun t ht _ => ⟨⟨_, (u81), rfl, ⟨a, _, ha, ea, hw81.trans (later_row hBJ), Or.inr (Or.inr (Or.inr ⟨h14, h24, J, B, eJ, rfl, Or.inl ⟨eB, hBJ, rfl⟩⟩))⟩, by rw [ht]; exact hP, hD⟩, hS.F ht⟩) hS.2.2 dX1_slide_96
            · skip
              refine lv_iconst (v := 3) hx hb dX1_slide_71 (by decide) ?_
              refine vx_ret ?_
              exact W.iret (v := 3) hx hb hr (fun t ht _ => ⟨⟨_, (pl), rfl, ⟨a, _, ha, ea, (up_self _ _).symm, Or.inr (Or.inr (Or.inl ⟨h14, h24, Or.inr (Or.inr (Or.inr (by rw [← ey_1]; exact sl_gt ex_3 c68))), rfl, rfl⟩))⟩, by rw [ht]; exact hP, hD⟩, hS.F ht⟩) hS.2.2 dX1_slide_72
    · skip
      refine lv_if_ne (tgt := 32) hx hb dX1_slide_27 (by decide) (fun c27 => absurd c27 (by decide)) (fun c27 => ?_)
      refine lv_iconst (v := 2) hx hb dX1_slide_30 (by decide) ?_
      refine vx_ret ?_
      exact W.iret (v := 2) hx hb hr (fun t ht _ => ⟨⟨_, (pl), rfl, ⟨a, _, ha, ea, (up_self _ _).symm, Or.inr (Or.inl ⟨h14, h24, rfl, rfl⟩)⟩, by rw [ht]; exact hP, hD⟩, hS.F ht⟩) hS.2.2 dX1_slide_31
