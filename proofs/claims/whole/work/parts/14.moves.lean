set_option maxHeartbeats 4000000 in
set_option maxRecDepth 100000 in
theorem c_X1_fillPurse (l : Launch) (D : va_G) (ci : Nat → ClassId) (ad : Nat → Nat) (z : Nat) (F : va_W) (hf : Nat → Nat) (ft : Nat → Int64) (fk : Nat → Int32) (fp : Nat → Int64) (n : Nat) (mk : Nat → Int32) (sz : Nat → Nat) (pl : Nat → Nat → Int64) (v ho ex : Int64) (hN : n ≤ 60) (hKD : ∀ k, k < n → ∃ q, q < 3 ∧ fk k = nI q) : Met l yX1_fillPurse wsX1_fillPurse ({ frames := 1, cells := 0, slots := 0, locals := 22 }) (va_Pc [.ref (ad 0), .long v, .long ho, .long ex] (fun U => WD D ci ad z (wC ci ad hf ft fk fp n mk sz pl ++ F) U)) (va_Qv (fun (u : Nat → Int64) => u = payStep fk n fp v ho ex) (fun u t => va_P D vwCl (wC ci ad hf ft fk u n mk sz pl ++ F) t.heap ∧ va_D (LA z) (wC ci ad hf ft fk u n mk sz pl ++ F)) (LA z)) 0 0 (LA z) := by
  refine Met.ofW (cc := cX1_fillPurse) (maxL := 8) (ret := none) (by decide) rfl ?_
  intro p e s m args below meth c s₁ B hml hv
  obtain ⟨rfl, hP, hD, hK, hE⟩ := hv
  have hx := B.exec
  have hb := B.bytes
  have hr := B.returns
  have hts := atoms_spec (ws := wsX1_fillPurse) B.pre
  have hown : s.vm.findClass RX1 = some m.cls := findClass_of_methodNamed B.named
  have hlocks := B.notSynchronized
  have hS : va_S (LA z) s.heap s.heap [] := va_S.rf
  have hin1 : ∀ w ∈ wsX10, w ∈ wsX1_fillPurse := by decide +kernel
  have hl := lv_entry ([.ref (ad 0), .long v, .long ho, .long ex]) (n := 8) (Nat.le_of_ble_eq_true rfl)
  rw [lg_entry_eq]
  generalize (lg_sl ([.ref (ad 0), .long v, .long ho, .long ex]) ++ List.replicate (8 - (lg_sl ([.ref (ad 0), .long v, .long ho, .long ex])).length) Slot.unset).toArray = ls at hl ⊢
  have hl : lv_has ls 8 [(0, .ref (ad 0)), (1, .long v), (3, .long ho), (5, .long ex)] := hl
  refine lv_aload_n hx hb dX1_fillPurse_0 rfl (lv_at hl 0 rfl) ?_
  refine lv_lload_n hx hb dX1_fillPurse_1 rfl (lv_at hl 1 rfl) ?_
  refine vp_callSi (W.runV (As := [.long v]) (rest := []) ⟨hx, hb, hml, hown, hts⟩ (c_X1_isHired l D ci ad z F hf ft fk fp n mk sz pl v hN) (cwV 1 hts gX1_fillPurse_X1_isHired rfl rfl rfl (by decide +kernel) ⟨Nat.le_of_ble_eq_true rfl, Nat.le_of_ble_eq_true rfl⟩) ⟨WD.fb, (va_recv hK hP (ci := 1) (q0 := 0) rfl rfl), fun U hU hW => ⟨rfl, WD.call hP hD hK hE hS hU hW⟩⟩ rfl rfl hl.1 rfl (lv_room (Nat.le_of_ble_eq_true rfl)) dX1_fillPurse_2 ⟨Nat.le_of_ble_eq_true rfl, Nat.le_of_ble_eq_true rfl⟩) (fun r2 hw2 => ?_)
  rcases hw2 with ⟨rfl, h2⟩ | ⟨rfl, h2⟩
  · skip
    obtain ⟨k, hk, ek⟩ := h2
    refine lv_if_eq (tgt := 39) hx hb dX1_fillPurse_5 (by decide) (fun c5 => absurd c5 (by decide)) (fun c5 => ?_)
    refine lv_lload_n hx hb dX1_fillPurse_8 rfl (lv_at hl 1 rfl) ?_
    refine lv_l2i hx hb dX1_fillPurse_9 rfl ?_
    refine rw_topi (y := (nI k)) (by rw [ek, lN_i]) ?_
    refine lv_istore (lv' := [(7, .int (nI k)), (0, .ref (ad 0)), (1, .long v), (3, .long ho), (5, .long ex)]) hx hb dX1_fillPurse_10 hl (by decide) rfl (fun ls hl => ?_)
    refine lv_aload_n hx hb dX1_fillPurse_12 rfl (lv_at hl 1 rfl) ?_
    refine va_get (D := D) (ci := 1) (C := RX1) (T := TX1) (N := 7) hx hb hts hin1 hown hK hP 0 rfl rfl 5 (by decide) (hts (.fieldLink RX1 33 "DutyRota" "purses" "[J") (by decide +kernel)) (fun _ h9 => h9) rfl dX1_fillPurse_13 ?_
    refine lv_iload hx hb dX1_fillPurse_16 (lv_at hl 0 rfl) ?_
    refine lv_dup2_11 hx hb dX1_fillPurse_18 rfl rfl ?_
    refine rw_lld hx hb hK hP 5 1 rfl rfl (j := k) (rfl) (by omega) (by decide) dX1_fillPurse_19 ?_
    refine lv_lload_n hx hb dX1_fillPurse_20 rfl (lv_at hl 3 rfl) ?_
    refine va_gets hx hb hE.2.2.2.2.2.2.1 hS hown (hts (.fieldLink RX1 156 "DutyRota" "RATES" "[I") (by decide +kernel)) (fun _ h9 => h9) dX1_fillPurse_21 ?_
    refine lv_aload_n hx hb dX1_fillPurse_24 rfl (lv_at hl 1 rfl) ?_
    refine va_get (D := D) (ci := 1) (C := RX1) (T := TX1) (N := 7) hx hb hts hin1 hown hK hP 0 rfl rfl 4 (by decide) (hts (.fieldLink RX1 29 "DutyRota" "kinds" "[I") (by decide +kernel)) (fun _ h9 => h9) rfl dX1_fillPurse_25 ?_
    refine lv_iload hx hb dX1_fillPurse_28 (lv_at hl 0 rfl) ?_
    refine rw_ild hx hb hK hP 4 0 rfl rfl (j := k) (rfl) (by omega) (by decide) dX1_fillPurse_30 ?_
    refine va_ti hx hb hE.2.2.2.2.2.2.2 hS (rates_at (hKD k hk)).1 (rates_at (hKD k hk)).2 dX1_fillPurse_31 ?_
    refine lv_i2l hx hb dX1_fillPurse_32 rfl ?_
    refine lv_lmul hx hb dX1_fillPurse_33 ?_
    refine lv_lload hx hb dX1_fillPurse_34 (lv_at hl 4 rfl) ?_
    refine lv_ladd hx hb dX1_fillPurse_36 ?_
    refine lv_ladd hx hb dX1_fillPurse_37 ?_
    refine rw_lst hx hb hK hP hD hS 5 1 rfl rfl (j := k) (rfl) (by omega) (by decide) (ws' := wC ci ad hf ft fk (vp_updL fp k ((fp k) + ((ho * ((rateI (fk k)).toInt64)) + ex))) n mk sz pl ++ F) rfl dX1_fillPurse_38 (fun H locs hP hD hS => ?_)
    exact W.vret hx hb hr (fun t ht _ => ⟨⟨((vp_updL fp k ((fp k) + ((ho * ((rateI (fk k)).toInt64)) + ex)))), rfl, (payStep_yes hN hk ek).symm, by rw [ht]; exact hP, hD⟩, hS.F ht⟩) hS.2.2 dX1_fillPurse_39
  · skip
    refine lv_if_eq (tgt := 39) hx hb dX1_fillPurse_5 (by decide) (fun c5 => ?_) (fun c5 => absurd c5 (by decide))
    exact W.vret hx hb hr (fun t ht _ => ⟨⟨(fp), rfl, (payStep_no h2).symm, by rw [ht]; exact hP, hD⟩, hS.F ht⟩) hS.2.2 dX1_fillPurse_39
set_option maxHeartbeats 4000000 in
set_option maxRecDepth 100000 in
theorem c_X1_slideLater (l : Launch) (D : va_G) (ci : Nat → ClassId) (ad : Nat → Nat) (z : Nat) (F : va_W) (hf : Nat → Nat) (ft : Nat → Int64) (fk : Nat → Int32) (fp : Nat → Int64) (n : Nat) (mk : Nat → Int32) (sz : Nat → Nat) (pl : Nat → Nat → Int64) (i a b : Nat) (hi : i < 10) (h9 : i < 9) (hsz : sz i ≤ 40) (hab : a + b ≤ sz i) : Met l yX1_slideLater wsX1_slideLater ({ frames := 2, cells := 0, slots := 0, locals := 60 }) (va_Pc [.ref (ad (10 + i)), .int (nI a), .int (nI b)] (fun U => WD D ci ad z (wC ci ad hf ft fk fp n mk sz pl ++ F) U)) (va_Qv (fun (u : Nat → Nat → Int64) => u = laterR mk sz pl i a b) (fun u t => va_P D vwCl (wC ci ad hf ft fk fp n mk sz u ++ F) t.heap ∧ va_D (LA z) (wC ci ad hf ft fk fp n mk sz u ++ F)) (LA z)) 0 0 (LA z) := by
  refine Met.ofW (cc := cX1_slideLater) (maxL := 3) (ret := none) (by decide) rfl ?_
  intro p e s m args below meth c s₁ B hml hv
  obtain ⟨rfl, hP, hD, hK, hE⟩ := hv
  have hx := B.exec
  have hb := B.bytes
  have hr := B.returns
  have hts := atoms_spec (ws := wsX1_slideLater) B.pre
  have hown : s.vm.findClass RX1 = some m.cls := findClass_of_methodNamed B.named
  have hlocks := B.notSynchronized
  have hS : va_S (LA z) s.heap s.heap [] := va_S.rf
  have hin0 : ∀ w ∈ wsX00, w ∈ wsX1_slideLater := by decide +kernel
  have hl := lv_entry ([.ref (ad (10 + i)), .int (nI a), .int (nI b)]) (n := 3) (Nat.le_of_ble_eq_true rfl)
  rw [lg_entry_eq]
  generalize (lg_sl ([.ref (ad (10 + i)), .int (nI a), .int (nI b)]) ++ List.replicate (3 - (lg_sl ([.ref (ad (10 + i)), .int (nI a), .int (nI b)])).length) Slot.unset).toArray = ls at hl ⊢
  have hl : lv_has ls 3 [(0, .ref (ad (10 + i))), (1, .int (nI a)), (2, .int (nI b))] := hl
  refine lv_aload_n hx hb dX1_slideLater_0 rfl (lv_at hl 0 rfl) ?_
  refine va_getN (D := D) (ci := 0) (C := RX0) (T := TX0) (N := 3) hx hb hts hin0 hown hK hP (6 + i) (wC_sh hi) rfl 0 (by decide) (hE.nF (by decide +kernel)) (fun _ h9 => h9) rfl dX1_slideLater_1 ?_
  refine lv_iload_n hx hb dX1_slideLater_4 rfl (lv_at hl 1 rfl) ?_
  refine lv_aload_n hx hb dX1_slideLater_5 rfl (lv_at hl 0 rfl) ?_
  refine va_getN (D := D) (ci := 0) (C := RX0) (T := TX0) (N := 3) hx hb hts hin0 hown hK hP (6 + i) (wC_sh hi) rfl 0 (by decide) (hE.nF (by decide +kernel)) (fun _ h9 => h9) rfl dX1_slideLater_6 ?_
  refine lv_iload_n hx hb dX1_slideLater_9 rfl (lv_at hl 1 rfl) ?_
  refine lv_iload_n hx hb dX1_slideLater_10 rfl (lv_at hl 2 rfl) ?_
  refine lv_iadd hx hb dX1_slideLater_11 ?_
  refine lv_aload_n hx hb dX1_slideLater_12 rfl (lv_at hl 0 rfl) ?_
  refine va_getN (D := D) (ci := 0) (C := RX0) (T := TX0) (N := 3) hx hb hts hin0 hown hK hP (6 + i) (wC_sh hi) rfl 2 (by decide) (hE.nF (by decide +kernel)) (fun _ h9 => h9) rfl dX1_slideLater_13 ?_
  refine lv_iload_n hx hb dX1_slideLater_16 rfl (lv_at hl 1 rfl) ?_
  refine lv_isub hx hb dX1_slideLater_17 ?_
  refine lv_iload_n hx hb dX1_slideLater_18 rfl (lv_at hl 2 rfl) ?_
  refine lv_isub hx hb dX1_slideLater_19 ?_
  refine rw_cpy hx hb (hml.trans hl.1.symm) hown (hts (.methodLink RX1 102 arraycopyName) (by decide +kernel)) (hts (.native arraycopyName) (by decide +kernel)) (hts (.static arraycopyName) (by decide +kernel)) (hts (.initialized "java/lang/System") (by decide +kernel)) hK hP hD hS (16 + i) (16 + i) 1 (wC_pl h9) (wC_pl h9) rfl (i := a) (j := (a + b)) (k := (sz i - a - b)) (rfl) (nI_add _ _) (by rw [pk_sub (by omega), pk_sub (by omega)]) (by omega) (by omega) (by decide) (by decide) (ws' := wC ci ad hf ft fk fp n mk sz (va_up pl i (va_cpy (pl i) (pl i) a (a + b) (sz i - a - b))) ++ F) (wC_set_pl h9 _) (Nat.le_of_ble_eq_true rfl) (Nat.le_of_ble_eq_true rfl) dX1_slideLater_20 (fun H locs hP hD hS => ?_)
  refine lv_aload_n hx hb dX1_slideLater_23 rfl (lv_at hl 0 rfl) ?_
  refine lv_iload_n hx hb dX1_slideLater_24 rfl (lv_at hl 1 rfl) ?_
  refine lv_iload_n hx hb dX1_slideLater_25 rfl (lv_at hl 1 rfl) ?_
  refine lv_iload_n hx hb dX1_slideLater_26 rfl (lv_at hl 2 rfl) ?_
  refine lv_iadd hx hb dX1_slideLater_27 ?_
  refine rw_topi (y := (nI (a + b))) (nI_add _ _) ?_
  refine va_callv (va_runVN (As := [.int (nI a), .int (nI (a + b))]) (rest := []) ⟨hx, hb, hml, hown, hts⟩ (c_X0_blank l D ci ad z F hf ft fk fp n mk sz (va_up pl i (va_cpy (pl i) (pl i) a (a + b) (sz i - a - b))) i a (a + b) hi h9 (by omega) (by omega)) ⟨va_cnB 2 hts gX1_slideLater_X0_blank_n153 rfl rfl rfl (hE.nM (by decide +kernel)) (hts (.initialized RX0) (by decide +kernel)) (by decide +kernel) ⟨Nat.le_of_ble_eq_true rfl, Nat.le_of_ble_eq_true rfl⟩, hts (.instanceMethod yX0_blank) (by decide +kernel), hts (.selects RX0 yX0_blank yX0_blank) (by decide +kernel)⟩ ⟨WD.fb, (va_recv hK hP (ci := 0) (q0 := 6 + i) rfl (wC_sh hi)), fun U hU hW => ⟨rfl, WD.call hP hD hK hE hS hU hW⟩⟩ rfl rfl hl.1 rfl (lv_room (Nat.le_of_ble_eq_true rfl)) dX1_slideLater_28 ⟨Nat.le_of_ble_eq_true rfl, Nat.le_of_ble_eq_true rfl⟩) hS (fun q _ h => h) (fun q h => h) (fun u28 t28 H locs ht28 hvm28 hw28 hB28 hz28 hk28 hS => ?_)
  obtain ⟨hP, hD⟩ := hB28
  rw [ht28] at hP
  exact W.vret hx hb hr (fun t ht _ => ⟨⟨(u28), rfl, hw28, by rw [ht]; exact hP, hD⟩, hS.F ht⟩) hS.2.2 dX1_slideLater_31
set_option maxHeartbeats 4000000 in
set_option maxRecDepth 100000 in
theorem c_X1_slideEarlier (l : Launch) (D : va_G) (ci : Nat → ClassId) (ad : Nat → Nat) (z : Nat) (F : va_W) (hf : Nat → Nat) (ft : Nat → Int64) (fk : Nat → Int32) (fp : Nat → Int64) (n : Nat) (mk : Nat → Int32) (sz : Nat → Nat) (pl : Nat → Nat → Int64) (i a b : Nat) (hi : i < 10) (h9 : i < 9) (hsz : sz i ≤ 40) (hba : b ≤ a) (hab : a ≤ sz i) : Met l yX1_slideEarlier wsX1_slideEarlier ({ frames := 2, cells := 0, slots := 0, locals := 60 }) (va_Pc [.ref (ad (10 + i)), .int (nI a), .int (nI b)] (fun U => WD D ci ad z (wC ci ad hf ft fk fp n mk sz pl ++ F) U)) (va_Qv (fun (u : Nat → Nat → Int64) => u = earlierR mk sz pl i a b) (fun u t => va_P D vwCl (wC ci ad hf ft fk fp n mk sz u ++ F) t.heap ∧ va_D (LA z) (wC ci ad hf ft fk fp n mk sz u ++ F)) (LA z)) 0 0 (LA z) := by
  refine Met.ofW (cc := cX1_slideEarlier) (maxL := 3) (ret := none) (by decide) rfl ?_
  intro p e s m args below meth c s₁ B hml hv
  obtain ⟨rfl, hP, hD, hK, hE⟩ := hv
  have hx := B.exec
  have hb := B.bytes
  have hr := B.returns
  have hts := atoms_spec (ws := wsX1_slideEarlier) B.pre
  have hown : s.vm.findClass RX1 = some m.cls := findClass_of_methodNamed B.named
  have hlocks := B.notSynchronized
  have hS : va_S (LA z) s.heap s.heap [] := va_S.rf
  have hin0 : ∀ w ∈ wsX00, w ∈ wsX1_slideEarlier := by decide +kernel
  have hl := lv_entry ([.ref (ad (10 + i)), .int (nI a), .int (nI b)]) (n := 3) (Nat.le_of_ble_eq_true rfl)
  rw [lg_entry_eq]
  generalize (lg_sl ([.ref (ad (10 + i)), .int (nI a), .int (nI b)]) ++ List.replicate (3 - (lg_sl ([.ref (ad (10 + i)), .int (nI a), .int (nI b)])).length) Slot.unset).toArray = ls at hl ⊢
  have hl : lv_has ls 3 [(0, .ref (ad (10 + i))), (1, .int (nI a)), (2, .int (nI b))] := hl
  refine lv_aload_n hx hb dX1_slideEarlier_0 rfl (lv_at hl 0 rfl) ?_
  refine va_getN (D := D) (ci := 0) (C := RX0) (T := TX0) (N := 3) hx hb hts hin0 hown hK hP (6 + i) (wC_sh hi) rfl 0 (by decide) (hE.nF (by decide +kernel)) (fun _ h9 => h9) rfl dX1_slideEarlier_1 ?_
  refine lv_iload_n hx hb dX1_slideEarlier_4 rfl (lv_at hl 1 rfl) ?_
  refine lv_aload_n hx hb dX1_slideEarlier_5 rfl (lv_at hl 0 rfl) ?_
  refine va_getN (D := D) (ci := 0) (C := RX0) (T := TX0) (N := 3) hx hb hts hin0 hown hK hP (6 + i) (wC_sh hi) rfl 0 (by decide) (hE.nF (by decide +kernel)) (fun _ h9 => h9) rfl dX1_slideEarlier_6 ?_
  refine lv_iload_n hx hb dX1_slideEarlier_9 rfl (lv_at hl 1 rfl) ?_
  refine lv_iload_n hx hb dX1_slideEarlier_10 rfl (lv_at hl 2 rfl) ?_
  refine lv_isub hx hb dX1_slideEarlier_11 ?_
  refine lv_aload_n hx hb dX1_slideEarlier_12 rfl (lv_at hl 0 rfl) ?_
  refine va_getN (D := D) (ci := 0) (C := RX0) (T := TX0) (N := 3) hx hb hts hin0 hown hK hP (6 + i) (wC_sh hi) rfl 2 (by decide) (hE.nF (by decide +kernel)) (fun _ h9 => h9) rfl dX1_slideEarlier_13 ?_
  refine lv_iload_n hx hb dX1_slideEarlier_16 rfl (lv_at hl 1 rfl) ?_
  refine lv_isub hx hb dX1_slideEarlier_17 ?_
  refine rw_cpy hx hb (hml.trans hl.1.symm) hown (hts (.methodLink RX1 102 arraycopyName) (by decide +kernel)) (hts (.native arraycopyName) (by decide +kernel)) (hts (.static arraycopyName) (by decide +kernel)) (hts (.initialized "java/lang/System") (by decide +kernel)) hK hP hD hS (16 + i) (16 + i) 1 (wC_pl h9) (wC_pl h9) rfl (i := a) (j := (a - b)) (k := (sz i - a)) (rfl) (pk_sub hba) (pk_sub hab) (by omega) (by omega) (by decide) (by decide) (ws' := wC ci ad hf ft fk fp n mk sz (va_up pl i (va_cpy (pl i) (pl i) a (a - b) (sz i - a))) ++ F) (wC_set_pl h9 _) (Nat.le_of_ble_eq_true rfl) (Nat.le_of_ble_eq_true rfl) dX1_slideEarlier_18 (fun H locs hP hD hS => ?_)
  refine lv_aload_n hx hb dX1_slideEarlier_21 rfl (lv_at hl 0 rfl) ?_
  refine lv_aload_n hx hb dX1_slideEarlier_22 rfl (lv_at hl 0 rfl) ?_
  refine va_getN (D := D) (ci := 0) (C := RX0) (T := TX0) (N := 3) hx hb hts hin0 hown hK hP (6 + i) (wC_sh hi) rfl 2 (by decide) (hE.nF (by decide +kernel)) (fun _ h9 => h9) rfl dX1_slideEarlier_23 ?_
  refine lv_iload_n hx hb dX1_slideEarlier_26 rfl (lv_at hl 2 rfl) ?_
  refine lv_isub hx hb dX1_slideEarlier_27 ?_
  refine rw_topi (y := (nI (sz i - b))) (pk_sub (by omega)) ?_
  refine lv_aload_n hx hb dX1_slideEarlier_28 rfl (lv_at hl 0 rfl) ?_
  refine va_getN (D := D) (ci := 0) (C := RX0) (T := TX0) (N := 3) hx hb hts hin0 hown hK hP (6 + i) (wC_sh hi) rfl 2 (by decide) (hE.nF (by decide +kernel)) (fun _ h9 => h9) rfl dX1_slideEarlier_29 ?_
  refine va_callv (va_runVN (As := [.int (nI (sz i - b)), .int (nI (sz i))]) (rest := []) ⟨hx, hb, hml, hown, hts⟩ (c_X0_blank l D ci ad z F hf ft fk fp n mk sz (va_up pl i (va_cpy (pl i) (pl i) a (a - b) (sz i - a))) i (sz i - b) (sz i) hi h9 (by omega) (by omega)) ⟨va_cnB 2 hts gX1_slideEarlier_X0_blank_n153 rfl rfl rfl (hE.nM (by decide +kernel)) (hts (.initialized RX0) (by decide +kernel)) (by decide +kernel) ⟨Nat.le_of_ble_eq_true rfl, Nat.le_of_ble_eq_true rfl⟩, hts (.instanceMethod yX0_blank) (by decide +kernel), hts (.selects RX0 yX0_blank yX0_blank) (by decide +kernel)⟩ ⟨WD.fb, (va_recv hK hP (ci := 0) (q0 := 6 + i) rfl (wC_sh hi)), fun U hU hW => ⟨rfl, WD.call hP hD hK hE hS hU hW⟩⟩ rfl rfl hl.1 rfl (lv_room (Nat.le_of_ble_eq_true rfl)) dX1_slideEarlier_32 ⟨Nat.le_of_ble_eq_true rfl, Nat.le_of_ble_eq_true rfl⟩) hS (fun q _ h => h) (fun q h => h) (fun u32 t32 H locs ht32 hvm32 hw32 hB32 hz32 hk32 hS => ?_)
  obtain ⟨hP, hD⟩ := hB32
  rw [ht32] at hP
  exact W.vret hx hb hr (fun t ht _ => ⟨⟨(u32), rfl, hw32, by rw [ht]; exact hP, hD⟩, hS.F ht⟩) hS.2.2 dX1_slideEarlier_35
set_option maxHeartbeats 4000000 in
set_option maxRecDepth 100000 in
theorem c_X1_copySpan (l : Launch) (D : va_G) (ci : Nat → ClassId) (ad : Nat → Nat) (z : Nat) (F : va_W) (hf : Nat → Nat) (ft : Nat → Int64) (fk : Nat → Int32) (fp : Nat → Int64) (n : Nat) (mk : Nat → Int32) (sz : Nat → Nat) (pl : Nat → Nat → Int64) (i : Nat) (x : Int32) (j : Nat) (y k : Int32) (hi : i < 10) (hj : j < 10) (hN : n ≤ 60) (hSZ : ∀ i, i < 10 → sz i ≤ 40) (h9m : mk 9 = 6) : Met l yX1_copySpan wsX1_copySpan ({ frames := 3, cells := 0, slots := 0, locals := 61 }) (va_Pc [.ref (ad 0), .ref (ad (10 + i)), .int x, .ref (ad (10 + j)), .int y, .int k] (fun U => WD D ci ad z (wC ci ad hf ft fk fp n mk sz pl ++ F) U)) (va_Qi (fun (r : Int32) (u : (Nat → Int64) × (Nat → Nat → Int64)) => cpP mk sz fk n pl i j x y k r u.2) (fun u t => va_P D vwCl (wC ci ad hf u.1 fk fp n mk sz u.2 ++ F) t.heap ∧ va_D (LA z) (wC ci ad hf u.1 fk fp n mk sz u.2 ++ F)) (LA z)) 0 0 (LA z) := by
  refine Met.ofW (cc := cX1_copySpan) (maxL := 7) (ret := (some .int)) (by decide) rfl ?_
  intro p e s m args below meth c s₁ B hml hv
  obtain ⟨rfl, hP, hD, hK, hE⟩ := hv
  have hx := B.exec
  have hb := B.bytes
  have hr := B.returns
  have hts := atoms_spec (ws := wsX1_copySpan) B.pre
  have hown : s.vm.findClass RX1 = some m.cls := findClass_of_methodNamed B.named
  have hlocks := B.notSynchronized
  have hS : va_S (LA z) s.heap s.heap [] := va_S.rf
  have hin0 : ∀ w ∈ wsX00, w ∈ wsX1_copySpan := by decide +kernel
  have hin1 : ∀ w ∈ wsX10, w ∈ wsX1_copySpan := by decide +kernel
  have hl := lv_entry ([.ref (ad 0), .ref (ad (10 + i)), .int x, .ref (ad (10 + j)), .int y, .int k]) (n := 7) (Nat.le_of_ble_eq_true rfl)
  rw [lg_entry_eq]
  generalize (lg_sl ([.ref (ad 0), .ref (ad (10 + i)), .int x, .ref (ad (10 + j)), .int y, .int k]) ++ List.replicate (7 - (lg_sl ([.ref (ad 0), .ref (ad (10 + i)), .int x, .ref (ad (10 + j)), .int y, .int k])).length) Slot.unset).toArray = ls at hl ⊢
  have hl : lv_has ls 7 [(0, .ref (ad 0)), (1, .ref (ad (10 + i))), (2, .int x), (3, .ref (ad (10 + j))), (4, .int y), (5, .int k)] := hl
  refine lv_aload_n hx hb dX1_copySpan_0 rfl (lv_at hl 1 rfl) ?_
  refine vp_callSi (toCR (va_runVN (As := []) (rest := []) ⟨hx, hb, hml, hown, hts⟩ (c_X0_isNothing l D ci ad z F hf ft fk fp n mk sz pl i  hi ) ⟨va_cnB 0 hts gX1_copySpan_X0_isNothing_n67 rfl rfl rfl (hE.nM (by decide +kernel)) (hts (.initialized RX0) (by decide +kernel)) (by decide +kernel) ⟨Nat.le_of_ble_eq_true rfl, Nat.le_of_ble_eq_true rfl⟩, hts (.instanceMethod yX0_isNothing) (by decide +kernel), hts (.selects RX0 yX0_isNothing yX0_isNothing) (by decide +kernel)⟩ ⟨WD.fb, (va_recv hK hP (ci := 0) (q0 := 6 + i) rfl (wC_sh hi)), fun U hU hW => ⟨rfl, WD.call hP hD hK hE hS hU hW⟩⟩ rfl rfl hl.1 rfl (lv_room (Nat.le_of_ble_eq_true rfl)) dX1_copySpan_1 ⟨Nat.le_of_ble_eq_true rfl, Nat.le_of_ble_eq_true rfl⟩)) (fun r1 hw1 => ?_)
  rcases hw1 with ⟨rfl, h1⟩ | ⟨rfl, h1⟩
  · skip
    refine lv_if_ne (tgt := 14) hx hb dX1_copySpan_4 (by decide) (fun c4 => ?_) (fun c4 => absurd c4 (by decide))
    refine lv_iconst (v := 1) hx hb dX1_copySpan_14 (by decide) ?_
    exact W.iret (v := 1) hx hb hr (fun t ht _ => ⟨⟨_, (ft, pl), rfl, Or.inl ⟨Or.inl h1, rfl, rfl⟩, by rw [ht]; exact hP, hD⟩, hS.F ht⟩) hS.2.2 dX1_copySpan_15
  · skip
    refine lv_if_ne (tgt := 14) hx hb dX1_copySpan_4 (by decide) (fun c4 => absurd c4 (by decide)) (fun c4 => ?_)
    refine lv_aload_n hx hb dX1_copySpan_7 rfl (lv_at hl 3 rfl) ?_
    refine vp_callSi (toCR (va_runVN (As := []) (rest := []) ⟨hx, hb, hml, hown, hts⟩ (c_X0_isNothing l D ci ad z F hf ft fk fp n mk sz pl j  hj ) ⟨va_cnB 0 hts gX1_copySpan_X0_isNothing_n67 rfl rfl rfl (hE.nM (by decide +kernel)) (hts (.initialized RX0) (by decide +kernel)) (by decide +kernel) ⟨Nat.le_of_ble_eq_true rfl, Nat.le_of_ble_eq_true rfl⟩, hts (.instanceMethod yX0_isNothing) (by decide +kernel), hts (.selects RX0 yX0_isNothing yX0_isNothing) (by decide +kernel)⟩ ⟨WD.fb, (va_recv hK hP (ci := 0) (q0 := 6 + j) rfl (wC_sh hj)), fun U hU hW => ⟨rfl, WD.call hP hD hK hE hS hU hW⟩⟩ rfl rfl hl.1 rfl (lv_room (Nat.le_of_ble_eq_true rfl)) dX1_copySpan_8 ⟨Nat.le_of_ble_eq_true rfl, Nat.le_of_ble_eq_true rfl⟩)) (fun r8 hw8 => ?_)
    rcases hw8 with ⟨rfl, h8⟩ | ⟨rfl, h8⟩
    · skip
      refine lv_if_eq (tgt := 16) hx hb dX1_copySpan_11 (by decide) (fun c11 => absurd c11 (by decide)) (fun c11 => ?_)
      refine lv_iconst (v := 1) hx hb dX1_copySpan_14 (by decide) ?_
      exact W.iret (v := 1) hx hb hr (fun t ht _ => ⟨⟨_, (ft, pl), rfl, Or.inl ⟨Or.inr h8, rfl, rfl⟩, by rw [ht]; exact hP, hD⟩, hS.F ht⟩) hS.2.2 dX1_copySpan_15
    · skip
      refine lv_if_eq (tgt := 16) hx hb dX1_copySpan_11 (by decide) (fun c11 => ?_) (fun c11 => absurd c11 (by decide))
      refine lv_aload_n hx hb dX1_copySpan_16 rfl (lv_at hl 1 rfl) ?_
      refine lv_aload_n hx hb dX1_copySpan_17 rfl (lv_at hl 3 rfl) ?_
      refine vp_callSi (W.runS (As := [.ref (ad (10 + i)), .ref (ad (10 + j))]) (rest := []) ⟨hx, hb, hml, hown, hts⟩ (c_X1_areAlike l D ci ad z F hf ft fk fp n mk sz pl i j hi hj) (va_cwS 2 hts gX1_copySpan_X1_areAlike rfl rfl rfl (by decide +kernel) ⟨Nat.le_of_ble_eq_true rfl, Nat.le_of_ble_eq_true rfl⟩) ⟨WD.fb, fun U hU hW => ⟨rfl, WD.call hP hD hK hE hS hU hW⟩⟩ rfl rfl hl.1 rfl (lv_room (Nat.le_of_ble_eq_true rfl)) dX1_copySpan_18 ⟨Nat.le_of_ble_eq_true rfl, Nat.le_of_ble_eq_true rfl⟩) (fun r18 hw18 => ?_)
      rcases hw18 with ⟨rfl, h18⟩ | ⟨rfl, h18⟩
      · skip
        refine lv_if_ne (tgt := 26) hx hb dX1_copySpan_21 (by decide) (fun c21 => ?_) (fun c21 => absurd c21 (by decide))
        refine lv_aload_n hx hb dX1_copySpan_26 rfl (lv_at hl 1 rfl) ?_
        refine lv_iload_n hx hb dX1_copySpan_27 rfl (lv_at hl 2 rfl) ?_
        refine lv_iload hx hb dX1_copySpan_28 (lv_at hl 5 rfl) ?_
        refine vp_callSi (toCR (va_runVN (As := [.int x, .int k]) (rest := []) ⟨hx, hb, hml, hown, hts⟩ (c_X0_hasSpan l D ci ad z F hf ft fk fp n mk sz pl i x k hi (hSZ i hi)) ⟨va_cnB 2 hts gX1_copySpan_X0_hasSpan_n149 rfl rfl rfl (hE.nM (by decide +kernel)) (hts (.initialized RX0) (by decide +kernel)) (by decide +kernel) ⟨Nat.le_of_ble_eq_true rfl, Nat.le_of_ble_eq_true rfl⟩, hts (.instanceMethod yX0_hasSpan) (by decide +kernel), hts (.selects RX0 yX0_hasSpan yX0_hasSpan) (by decide +kernel)⟩ ⟨WD.fb, (va_recv hK hP (ci := 0) (q0 := 6 + i) rfl (wC_sh hi)), fun U hU hW => ⟨rfl, WD.call hP hD hK hE hS hU hW⟩⟩ rfl rfl hl.1 rfl (lv_room (Nat.le_of_ble_eq_true rfl)) dX1_copySpan_30 ⟨Nat.le_of_ble_eq_true rfl, Nat.le_of_ble_eq_true rfl⟩)) (fun r30 hw30 => ?_)
        rcases hw30 with ⟨rfl, h30⟩ | ⟨rfl, h30⟩
        · skip
          refine lv_if_eq (tgt := 47) hx hb dX1_copySpan_33 (by decide) (fun c33 => absurd c33 (by decide)) (fun c33 => ?_)
          refine lv_aload_n hx hb dX1_copySpan_36 rfl (lv_at hl 3 rfl) ?_
          refine lv_iload hx hb dX1_copySpan_37 (lv_at hl 4 rfl) ?_
          refine lv_iload hx hb dX1_copySpan_39 (lv_at hl 5 rfl) ?_
          refine vp_callSi (toCR (va_runVN (As := [.int y, .int k]) (rest := []) ⟨hx, hb, hml, hown, hts⟩ (c_X0_hasSpan l D ci ad z F hf ft fk fp n mk sz pl j y k hj (hSZ j hj)) ⟨va_cnB 2 hts gX1_copySpan_X0_hasSpan_n149 rfl rfl rfl (hE.nM (by decide +kernel)) (hts (.initialized RX0) (by decide +kernel)) (by decide +kernel) ⟨Nat.le_of_ble_eq_true rfl, Nat.le_of_ble_eq_true rfl⟩, hts (.instanceMethod yX0_hasSpan) (by decide +kernel), hts (.selects RX0 yX0_hasSpan yX0_hasSpan) (by decide +kernel)⟩ ⟨WD.fb, (va_recv hK hP (ci := 0) (q0 := 6 + j) rfl (wC_sh hj)), fun U hU hW => ⟨rfl, WD.call hP hD hK hE hS hU hW⟩⟩ rfl rfl hl.1 rfl (lv_room (Nat.le_of_ble_eq_true rfl)) dX1_copySpan_41 ⟨Nat.le_of_ble_eq_true rfl, Nat.le_of_ble_eq_true rfl⟩)) (fun r41 hw41 => ?_)
          rcases hw41 with ⟨rfl, h41⟩ | ⟨rfl, h41⟩
          · skip
            refine lv_if_ne (tgt := 49) hx hb dX1_copySpan_44 (by decide) (fun c44 => ?_) (fun c44 => absurd c44 (by decide))
            obtain ⟨X, K, eX, eK, hXK⟩ := h30
            obtain ⟨Y, K2, eY, eK2, hYK⟩ := h41
            have hsi := hSZ i hi
            have hsj := hSZ j hj
            have hKK : K = K2 := nI_inj (by omega) (by omega) (eK.symm.trans eK2)
            subst hKK
            have h9i : i < 9 := ne9 h9m hi h1
            have h9j : j < 9 := ne9 h9m hj h8
            have hno6 : ¬ (mk i = 6 ∨ mk j = 6) := fun h => h.elim h1 h8
            refine lv_aload_n hx hb dX1_copySpan_49 rfl (lv_at hl 1 rfl) ?_
            refine va_getN (D := D) (ci := 0) (C := RX0) (T := TX0) (N := 3) hx hb hts hin0 hown hK hP (6 + i) (wC_sh hi) rfl 0 (by decide) (hE.nF (by decide +kernel)) (fun _ h9 => h9) rfl dX1_copySpan_50 ?_
            refine lv_iload_n hx hb dX1_copySpan_53 rfl (lv_at hl 2 rfl) ?_
            refine lv_aload_n hx hb dX1_copySpan_54 rfl (lv_at hl 0 rfl) ?_
            refine va_get (D := D) (ci := 1) (C := RX1) (T := TX1) (N := 7) hx hb hts hin1 hown hK hP 0 rfl rfl 3 (by decide) (hts (.fieldLink RX1 25 "DutyRota" "taken" "[J") (by decide +kernel)) (fun _ h9 => h9) rfl dX1_copySpan_55 ?_
            refine lv_iconst (v := 0) hx hb dX1_copySpan_58 (by decide) ?_
            refine lv_iload hx hb dX1_copySpan_59 (lv_at hl 5 rfl) ?_
            refine rw_cpy hx hb (hml.trans hl.1.symm) hown (hts (.methodLink RX1 102 arraycopyName) (by decide +kernel)) (hts (.native arraycopyName) (by decide +kernel)) (hts (.static arraycopyName) (by decide +kernel)) (hts (.initialized "java/lang/System") (by decide +kernel)) hK hP hD hS (16 + i) 3 1 (wC_pl h9i) rfl rfl (i := X) (j := 0) (k := K) (eX) (rfl) (eK) (by omega) (by omega) (by decide) (by decide) (ws' := wC ci ad hf (va_cpy (pl i) ft X 0 K) fk fp n mk sz pl ++ F) rfl (Nat.le_of_ble_eq_true rfl) (Nat.le_of_ble_eq_true rfl) dX1_copySpan_61 (fun H locs hP hD hS => ?_)
            refine lv_iconst (v := 0) hx hb dX1_copySpan_64 (by decide) ?_
            refine lv_istore (lv' := [(6, .int 0), (0, .ref (ad 0)), (1, .ref (ad (10 + i))), (2, .int x), (3, .ref (ad (10 + j))), (4, .int y), (5, .int k)]) hx hb dX1_copySpan_65 hl (by decide) rfl (fun ls hl => ?_)
            have loop67 : ∀ (d67 : Nat) (q : Nat) (pl1 : Nat → Nat → Int64) (hd67 : K + 1 ≤ q + d67) (hq : q ≤ K) (htk : ∀ p, p < q → ¬ noTake (mk j) fk n (pl i (X + p))) (hpl : pl1 = va_up pl j (va_cpy (pl i) (pl j) X Y q)) (H : Heap) (locs : List Loc) (hP : va_P D vwCl (wC ci ad hf (va_cpy (pl i) ft X 0 K) fk fp n mk sz pl1 ++ F) H) (hD : va_D (LA z) (wC ci ad hf (va_cpy (pl i) ft X 0 K) fk fp n mk sz pl1 ++ F)) (hS : va_S (LA z) s.heap H locs) (ls : Array Slot) (hl : lv_has ls 7 [(6, .int (nI q)), (0, .ref (ad 0)), (1, .ref (ad (10 + i))), (2, .int x), (3, .ref (ad (10 + j))), (4, .int y), (5, .int k)]), W p l e ({ frames := 3, cells := 0, slots := 0, locals := 61 } : Room) s m ([.ref (ad 0), .ref (ad (10 + i)), .int x, .ref (ad (10 + j)), .int y, .int k] : List Value).toArray below meth c H locs 0 0 (MQ below (va_Qi (fun (r : Int32) (u : (Nat → Int64) × (Nat → Nat → Int64)) => cpP mk sz fk n pl i j x y k r u.2) (fun u t => va_P D vwCl (wC ci ad hf u.1 fk fp n mk sz u.2 ++ F) t.heap ∧ va_D (LA z) (wC ci ad hf u.1 fk fp n mk sz u.2 ++ F)) (LA z)) ([.ref (ad 0), .ref (ad (10 + i)), .int x, .ref (ad (10 + j)), .int y, .int k] : List Value).toArray s 0 0 (LA z)) (F0 m 67 ls []) := by
              intro d67
              induction d67 with
              | zero => intro q pl1 hd67 hq htk hpl H locs hP hD hS ls hl; exact absurd hd67 (by omega)
              | succ d67 ih67 =>
                intro q pl1 hd67 hq htk hpl H locs hP hD hS ls hl
                refine lv_iload hx hb dX1_copySpan_67 (lv_at hl 0 rfl) ?_
                refine lv_iload hx hb dX1_copySpan_69 (lv_at hl 6 rfl) ?_
                refine lv_icmp_ge (tgt := 114) hx hb dX1_copySpan_71 (by decide) (fun c71 => ?_) (fun c71 => ?_)
                · skip
                  have hqK : q = K := by rw [eK] at c71; have := nI_ge_of c71 (by omega) (by omega); omega
                  refine lv_iconst (v := 0) hx hb dX1_copySpan_114 (by decide) ?_
                  exact W.iret (v := 0) hx hb hr (fun t ht _ => ⟨⟨_, ((va_cpy (pl i) ft X 0 K), pl1), rfl, Or.inr (Or.inr (Or.inr ⟨hno6, h18, X, Y, K, q, eX, eY, eK, hXK, hYK, hq, htk, hpl, Or.inl ⟨hqK, rfl⟩⟩)), by rw [ht]; exact hP, hD⟩, hS.F ht⟩) hS.2.2 dX1_copySpan_115
                · skip
                  have hqK : q < K := by rw [eK] at c71; exact nI_lt_of c71 (by omega) (by omega)
                  refine lv_aload_n hx hb dX1_copySpan_74 rfl (lv_at hl 1 rfl) ?_
                  refine lv_aload_n hx hb dX1_copySpan_75 rfl (lv_at hl 4 rfl) ?_
                  refine lv_aload_n hx hb dX1_copySpan_76 rfl (lv_at hl 1 rfl) ?_
                  refine va_get (D := D) (ci := 1) (C := RX1) (T := TX1) (N := 7) hx hb hts hin1 hown hK hP 0 rfl rfl 3 (by decide) (hts (.fieldLink RX1 25 "DutyRota" "taken" "[J") (by decide +kernel)) (fun _ h9 => h9) rfl dX1_copySpan_77 ?_
                  refine lv_iload hx hb dX1_copySpan_80 (lv_at hl 0 rfl) ?_
                  refine rw_lld hx hb hK hP 3 1 rfl rfl (j := q) (rfl) (by omega) (by decide) dX1_copySpan_82 ?_
                  refine rw_topl (y := (pl i (X + q))) (by rw [pk_cpy_in (Nat.zero_le q) (by omega), Nat.sub_zero]) ?_
                  refine vp_callSi (W.runV (As := [.ref (ad (10 + j)), .long (pl i (X + q))]) (rest := []) ⟨hx, hb, hml, hown, hts⟩ (c_X1_takes l D ci ad z F hf (va_cpy (pl i) ft X 0 K) fk fp n mk sz pl1 j (pl i (X + q)) hj hN) (cwV 2 hts gX1_copySpan_X1_takes rfl rfl rfl (by decide +kernel) ⟨Nat.le_of_ble_eq_true rfl, Nat.le_of_ble_eq_true rfl⟩) ⟨WD.fb, (va_recv hK hP (ci := 1) (q0 := 0) rfl rfl), fun U hU hW => ⟨rfl, WD.call hP hD hK hE hS hU hW⟩⟩ rfl rfl hl.1 rfl (lv_room (Nat.le_of_ble_eq_true rfl)) dX1_copySpan_83 ⟨Nat.le_of_ble_eq_true rfl, Nat.le_of_ble_eq_true rfl⟩) (fun r83 hw83 => ?_)
                  rcases hw83 with ⟨rfl, h83⟩ | ⟨rfl, h83⟩
                  · skip
                    refine lv_if_ne (tgt := 91) hx hb dX1_copySpan_86 (by decide) (fun c86 => ?_) (fun c86 => absurd c86 (by decide))
                    refine lv_aload_n hx hb dX1_copySpan_91 rfl (lv_at hl 4 rfl) ?_
                    refine va_getN (D := D) (ci := 0) (C := RX0) (T := TX0) (N := 3) hx hb hts hin0 hown hK hP (6 + j) (wC_sh hj) rfl 0 (by decide) (hE.nF (by decide +kernel)) (fun _ h9 => h9) rfl dX1_copySpan_92 ?_
                    refine lv_iload hx hb dX1_copySpan_95 (lv_at hl 5 rfl) ?_
                    refine lv_iload hx hb dX1_copySpan_97 (lv_at hl 0 rfl) ?_
                    refine lv_iadd hx hb dX1_copySpan_99 ?_
                    refine lv_aload_n hx hb dX1_copySpan_100 rfl (lv_at hl 1 rfl) ?_
                    refine va_get (D := D) (ci := 1) (C := RX1) (T := TX1) (N := 7) hx hb hts hin1 hown hK hP 0 rfl rfl 3 (by decide) (hts (.fieldLink RX1 25 "DutyRota" "taken" "[J") (by decide +kernel)) (fun _ h9 => h9) rfl dX1_copySpan_101 ?_
                    refine lv_iload hx hb dX1_copySpan_104 (lv_at hl 0 rfl) ?_
                    refine rw_lld hx hb hK hP 3 1 rfl rfl (j := q) (rfl) (by omega) (by decide) dX1_copySpan_106 ?_
                    refine rw_topl (y := (pl i (X + q))) (by rw [pk_cpy_in (Nat.zero_le q) (by omega), Nat.sub_zero]) ?_
                    refine rw_lst hx hb hK hP hD hS (16 + j) 1 (wC_pl h9j) rfl (j := (Y + q)) (by rw [eY, nI_add]) (by omega) (by decide) (ws' := wC ci ad hf (va_cpy (pl i) ft X 0 K) fk fp n mk sz (va_up pl1 j (vp_updL (pl1 j) (Y + q) (pl i (X + q)))) ++ F) (wC_set_pl h9j _) dX1_copySpan_107 (fun H locs hP hD hS => ?_)
                    refine lv_iinc (v := (nI (q + 1))) (lv' := [(6, .int (nI (q + 1))), (0, .ref (ad 0)), (1, .ref (ad (10 + i))), (2, .int x), (3, .ref (ad (10 + j))), (4, .int y), (5, .int k)]) hx hb dX1_copySpan_108 hl (k := 0) rfl (nI_1 _) (by decide) rfl (fun ls hl => ?_)
                    refine lv_goto (tgt := 67) hx hb dX1_copySpan_111 (by decide) ?_
                    exact ih67 (q + 1) (va_up pl1 j (vp_updL (pl1 j) (Y + q) (pl i (X + q)))) (by omega) (by omega) (lt_s htk h83) (by rw [hpl]; exact cpy_s) H locs hP hD hS ls (lv_sub hl [0, 1, 2, 3, 4, 5, 6] rfl)
                  · skip
                    refine lv_if_ne (tgt := 91) hx hb dX1_copySpan_86 (by decide) (fun c86 => absurd c86 (by decide)) (fun c86 => ?_)
                    refine lv_iconst (v := 2) hx hb dX1_copySpan_89 (by decide) ?_
                    exact W.iret (v := 2) hx hb hr (fun t ht _ => ⟨⟨_, ((va_cpy (pl i) ft X 0 K), pl1), rfl, Or.inr (Or.inr (Or.inr ⟨hno6, h18, X, Y, K, q, eX, eY, eK, hXK, hYK, hq, htk, hpl, Or.inr ⟨hqK, h83, rfl⟩⟩)), by rw [ht]; exact hP, hD⟩, hS.F ht⟩) hS.2.2 dX1_copySpan_90
            exact loop67 (K + 1) 0 pl (by omega) (by omega) (fun p h => absurd h (by omega)) (cpy_0.symm) H locs hP hD hS ls (lv_sub hl [0, 1, 2, 3, 4, 5, 6] rfl)
          · skip
            refine lv_if_ne (tgt := 49) hx hb dX1_copySpan_44 (by decide) (fun c44 => absurd c44 (by decide)) (fun c44 => ?_)
            refine lv_iconst (v := 3) hx hb dX1_copySpan_47 (by decide) ?_
            exact W.iret (v := 3) hx hb hr (fun t ht _ => ⟨⟨_, (ft, pl), rfl, Or.inr (Or.inr (Or.inl ⟨fun h => h.elim h1 h8, h18, Or.inr h41, rfl, rfl⟩)), by rw [ht]; exact hP, hD⟩, hS.F ht⟩) hS.2.2 dX1_copySpan_48
        · skip
          refine lv_if_eq (tgt := 47) hx hb dX1_copySpan_33 (by decide) (fun c33 => ?_) (fun c33 => absurd c33 (by decide))
          refine lv_iconst (v := 3) hx hb dX1_copySpan_47 (by decide) ?_
          exact W.iret (v := 3) hx hb hr (fun t ht _ => ⟨⟨_, (ft, pl), rfl, Or.inr (Or.inr (Or.inl ⟨fun h => h.elim h1 h8, h18, Or.inl h30, rfl, rfl⟩)), by rw [ht]; exact hP, hD⟩, hS.F ht⟩) hS.2.2 dX1_copySpan_48
      · skip
        refine lv_if_ne (tgt := 26) hx hb dX1_copySpan_21 (by decide) (fun c21 => absurd c21 (by decide)) (fun c21 => ?_)
        refine lv_iconst (v := 2) hx hb dX1_copySpan_24 (by decide) ?_
        exact W.iret (v := 2) hx hb hr (fun t ht _ => ⟨⟨_, (ft, pl), rfl, Or.inr (Or.inl ⟨fun h => h.elim h1 h8, h18, rfl, rfl⟩), by rw [ht]; exact hP, hD⟩, hS.F ht⟩) hS.2.2 dX1_copySpan_25
