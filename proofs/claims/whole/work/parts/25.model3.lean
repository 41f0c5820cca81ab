set_option maxHeartbeats 4000000 in
set_option maxRecDepth 100000 in
theorem c_X2_share (l : Launch) (D : va_G) (ci : Nat → ClassId) (ad : Nat → Nat) (z : Nat) (F : va_W) (th : Int32) (hd : Nat → Int32) (mk : Nat → Int32) (sz : Nat → Int32) (ce : Nat → Int64) (as : Nat → Int64) (np : Nat) (kd : Nat → Int32) (pu : Nat → Int64) (Hg Z : Nat → Nat) (x y : Int32) (hH : hOK hd Hg) (hZ : zOK sz Z) (hN : np ≤ 60) (hMK : ∀ t, t < 9 → ¬ mk t < 0) (hRO : ∀ h, h < 8 → mV mk (Hg h) ≤ 2 → ∀ q, q < sV mk Z (Hg h) → okV np (rV ce (Hg h) q)) : Met l yX2_share wsX2_share ({ frames := 2, cells := 0, slots := 0, locals := 42 }) (va_Pc [.ref (ad 30), .int x, .int y] (fun U => WD D ci ad z (wM ci ad th hd mk sz ce as np kd pu ++ F) U)) (va_Qi (fun (r : Int32) (u : Int32 × (Nat → Int32)) => (u.1 = 1 ∧ (badH x ∨ badH y) ∧ u.2 = hd) ∨ (u.1 = 0 ∧ ∃ a b, a < 8 ∧ b < 8 ∧ x = nI a ∧ y = nI b ∧ u.2 = upd hd b (hd a) ∧ r = mV mk (Hg a))) (fun u t => va_P D vwCl (wM ci ad u.1 u.2 mk sz ce as np kd pu ++ F) t.heap ∧ va_D (LA z) (wM ci ad u.1 u.2 mk sz ce as np kd pu ++ F)) (LA z)) 0 0 (LA z) := by
  refine Met.ofW (cc := cX2_share) (maxL := 3) (ret := (some .int)) (by decide) rfl ?_
  intro p e s m args below meth c s₁ B hml hv
  obtain ⟨rfl, hP, hD, hK, hE⟩ := hv
  have hx := B.exec
  have hb := B.bytes
  have hr := B.returns
  have hts := atoms_spec (ws := wsX2_share) B.pre
  have hown : s.vm.findClass RX2 = some m.cls := findClass_of_methodNamed B.named
  have hlocks := B.notSynchronized
  have hS : va_S (LA z) s.heap s.heap [] := va_S.rf
  have hin2 : ∀ w ∈ wsX20, w ∈ wsX2_share := by decide +kernel
  have hl := lv_entry ([.ref (ad 30), .int x, .int y]) (n := 3) (Nat.le_of_ble_eq_true rfl)
  rw [lg_entry_eq]
  generalize (lg_sl ([.ref (ad 30), .int x, .int y]) ++ List.replicate (3 - (lg_sl ([.ref (ad 30), .int x, .int y])).length) Slot.unset).toArray = ls at hl ⊢
  have hl : lv_has ls 3 [(0, .ref (ad 30)), (1, .int x), (2, .int y)] := hl
  refine lv_aload_n hx hb dX2_share_0 rfl (lv_at hl 0 rfl) ?_
  refine lv_iload_n hx hb dX2_share_1 rfl (lv_at hl 1 rfl) ?_
  refine vp_callSi (W.runS (As := [.int x]) (rest := [.ref (ad 30)]) ⟨hx, hb, hml, hown, hts⟩ (c_X2_noHook l x ) (va_cwS 1 hts gX2_share_X2_noHook rfl rfl rfl (by decide +kernel) ⟨Nat.le_of_ble_eq_true rfl, Nat.le_of_ble_eq_true rfl⟩) ⟨fb0, fun U hU hW => ⟨rfl, trivial⟩⟩ rfl rfl hl.1 rfl (lv_room (Nat.le_of_ble_eq_true rfl)) dX2_share_2 ⟨Nat.le_of_ble_eq_true rfl, Nat.le_of_ble_eq_true rfl⟩) (fun r2 hw2 => ?_)
  rcases hw2 with ⟨rfl, h2⟩ | ⟨rfl, h2⟩
  · skip
    refine lv_if_ne (tgt := 15) hx hb dX2_share_5 (by decide) (fun c5 => ?_) (fun c5 => absurd c5 (by decide))
    refine lv_iconst (v := 1) hx hb dX2_share_15 (by decide) ?_
    refine lv_goto (tgt := 20) hx hb dX2_share_16 (by decide) ?_
    refine lv_iconst (v := 0) hx hb dX2_share_20 (by decide) ?_
    refine va_calli (va_runV (As := [.int 1, .int 0]) (rest := []) ⟨hx, hb, hml, hown, hts⟩ (c_X2_fails l D ci ad z F th hd mk sz ce as np kd pu 1 0 ) (cwV 2 hts gX2_share_X2_fails rfl rfl rfl (by decide +kernel) ⟨Nat.le_of_ble_eq_true rfl, Nat.le_of_ble_eq_true rfl⟩) ⟨WD.fb, (va_recv hK hP (ci := 2) (q0 := 0) rfl rfl), fun U hU hW => ⟨rfl, WD.call hP hD hK hE hS hU hW⟩⟩ rfl rfl hl.1 rfl (lv_room (Nat.le_of_ble_eq_true rfl)) dX2_share_21 ⟨Nat.le_of_ble_eq_true rfl, Nat.le_of_ble_eq_true rfl⟩) hS (fun q _ h => h) (fun q h => h) (fun r21 u21 t21 H locs ht21 hvm21 hw21 hB21 hz21 hk21 hS => ?_)
    obtain ⟨hP, hD⟩ := hB21
    rw [ht21] at hP
    rcases hw21 with ⟨rfl, h21⟩ | ⟨rfl, h21⟩
    rotate_left
    · exact absurd h21.1 (by decide)
    have hu21 : u21 = 1 := u1 h21
    subst hu21
    refine lv_if_eq (tgt := 29) hx hb dX2_share_24 (by decide) (fun c24 => absurd c24 (by decide)) (fun c24 => ?_)
    refine lv_iconst (v := 0) hx hb dX2_share_27 (by decide) ?_
    exact W.iret (v := 0) hx hb hr (fun t ht _ => ⟨⟨_, (1, hd), rfl, Or.inl ⟨rfl, Or.inl h2, rfl⟩, by rw [ht]; exact hP, hD⟩, hS.F ht⟩) hS.2.2 dX2_share_28
  · skip
    obtain ⟨a, ha, ea⟩ := h2
    refine lv_if_ne (tgt := 15) hx hb dX2_share_5 (by decide) (fun c5 => absurd c5 (by decide)) (fun c5 => ?_)
    refine lv_iload_n hx hb dX2_share_8 rfl (lv_at hl 2 rfl) ?_
    refine vp_callSi (W.runS (As := [.int y]) (rest := [.ref (ad 30)]) ⟨hx, hb, hml, hown, hts⟩ (c_X2_noHook l y ) (va_cwS 1 hts gX2_share_X2_noHook rfl rfl rfl (by decide +kernel) ⟨Nat.le_of_ble_eq_true rfl, Nat.le_of_ble_eq_true rfl⟩) ⟨fb0, fun U hU hW => ⟨rfl, trivial⟩⟩ rfl rfl hl.1 rfl (lv_room (Nat.le_of_ble_eq_true rfl)) dX2_share_9 ⟨Nat.le_of_ble_eq_true rfl, Nat.le_of_ble_eq_true rfl⟩) (fun r9 hw9 => ?_)
    rcases hw9 with ⟨rfl, h9⟩ | ⟨rfl, h9⟩
    · skip
      refine lv_if_eq (tgt := 19) hx hb dX2_share_12 (by decide) (fun c12 => absurd c12 (by decide)) (fun c12 => ?_)
      refine lv_iconst (v := 1) hx hb dX2_share_15 (by decide) ?_
      refine lv_goto (tgt := 20) hx hb dX2_share_16 (by decide) ?_
      refine lv_iconst (v := 0) hx hb dX2_share_20 (by decide) ?_
      refine va_calli (va_runV (As := [.int 1, .int 0]) (rest := []) ⟨hx, hb, hml, hown, hts⟩ (c_X2_fails l D ci ad z F th hd mk sz ce as np kd pu 1 0 ) (cwV 2 hts gX2_share_X2_fails rfl rfl rfl (by decide +kernel) ⟨Nat.le_of_ble_eq_true rfl, Nat.le_of_ble_eq_true rfl⟩) ⟨WD.fb, (va_recv hK hP (ci := 2) (q0 := 0) rfl rfl), fun U hU hW => ⟨rfl, WD.call hP hD hK hE hS hU hW⟩⟩ rfl rfl hl.1 rfl (lv_room (Nat.le_of_ble_eq_true rfl)) dX2_share_21 ⟨Nat.le_of_ble_eq_true rfl, Nat.le_of_ble_eq_true rfl⟩) hS (fun q _ h => h) (fun q h => h) (fun r21 u21 t21 H locs ht21 hvm21 hw21 hB21 hz21 hk21 hS => ?_)
      obtain ⟨hP, hD⟩ := hB21
      rw [ht21] at hP
      rcases hw21 with ⟨rfl, h21⟩ | ⟨rfl, h21⟩
      rotate_left
      · exact absurd h21.1 (by decide)
      have hu21 : u21 = 1 := u1 h21
      subst hu21
      refine lv_if_eq (tgt := 29) hx hb dX2_share_24 (by decide) (fun c24 => absurd c24 (by decide)) (fun c24 => ?_)
      refine lv_iconst (v := 0) hx hb dX2_share_27 (by decide) ?_
      exact W.iret (v := 0) hx hb hr (fun t ht _ => ⟨⟨_, (1, hd), rfl, Or.inl ⟨rfl, Or.inr h9, rfl⟩, by rw [ht]; exact hP, hD⟩, hS.F ht⟩) hS.2.2 dX2_share_28
    · skip
      obtain ⟨b, hb8, eb⟩ := h9
      refine lv_if_eq (tgt := 19) hx hb dX2_share_12 (by decide) (fun c12 => ?_) (fun c12 => absurd c12 (by decide))
      refine lv_iconst (v := 0) hx hb dX2_share_19 (by decide) ?_
      refine lv_iconst (v := 0) hx hb dX2_share_20 (by decide) ?_
      refine va_calli (va_runV (As := [.int 0, .int 0]) (rest := []) ⟨hx, hb, hml, hown, hts⟩ (c_X2_fails l D ci ad z F th hd mk sz ce as np kd pu 0 0 ) (cwV 2 hts gX2_share_X2_fails rfl rfl rfl (by decide +kernel) ⟨Nat.le_of_ble_eq_true rfl, Nat.le_of_ble_eq_true rfl⟩) ⟨WD.fb, (va_recv hK hP (ci := 2) (q0 := 0) rfl rfl), fun U hU hW => ⟨rfl, WD.call hP hD hK hE hS hU hW⟩⟩ rfl rfl hl.1 rfl (lv_room (Nat.le_of_ble_eq_true rfl)) dX2_share_21 ⟨Nat.le_of_ble_eq_true rfl, Nat.le_of_ble_eq_true rfl⟩) hS (fun q _ h => h) (fun q h => h) (fun r21 u21 t21 H locs ht21 hvm21 hw21 hB21 hz21 hk21 hS => ?_)
      obtain ⟨hP, hD⟩ := hB21
      rw [ht21] at hP
      rcases hw21 with ⟨rfl, h21⟩ | ⟨rfl, h21⟩
      · exact absurd rfl (h21.elim (fun q => q.1) (fun q => q.2.1))
      have hu21 : u21 = 0 := h21.2.2
      subst hu21
      refine lv_if_eq (tgt := 29) hx hb dX2_share_24 (by decide) (fun c24 => ?_) (fun c24 => absurd c24 (by decide))
      refine lv_aload_n hx hb dX2_share_29 rfl (lv_at hl 0 rfl) ?_
      refine va_get (D := D) (ci := 2) (C := RX2) (T := TX2) (N := 9) hx hb hts hin2 hown hK hP 0 rfl rfl 1 (by decide) (hts (.fieldLink RX2 9 "DutyRotaModel" "held" "[I") (by decide +kernel)) (fun _ h9 => h9) rfl dX2_share_30 ?_
      refine lv_iload_n hx hb dX2_share_33 rfl (lv_at hl 2 rfl) ?_
      refine lv_aload_n hx hb dX2_share_34 rfl (lv_at hl 0 rfl) ?_
      refine va_get (D := D) (ci := 2) (C := RX2) (T := TX2) (N := 9) hx hb hts hin2 hown hK hP 0 rfl rfl 1 (by decide) (hts (.fieldLink RX2 9 "DutyRotaModel" "held" "[I") (by decide +kernel)) (fun _ h9 => h9) rfl dX2_share_35 ?_
      refine lv_iload_n hx hb dX2_share_38 rfl (lv_at hl 1 rfl) ?_
      refine rw_ild hx hb hK hP 1 0 rfl rfl (j := a) (ea) (ha) (by decide) dX2_share_39 ?_
      refine rw_ist hx hb hK hP hD hS 1 0 rfl rfl (j := b) (eb) (hb8) (by decide) (ws' := wM ci ad 0 (upd hd b (hd a)) mk sz ce as np kd pu ++ F) rfl dX2_share_40 (fun H locs hP hD hS => ?_)
      refine lv_aload_n hx hb dX2_share_41 rfl (lv_at hl 0 rfl) ?_
      refine lv_iload_n hx hb dX2_share_42 rfl (lv_at hl 2 rfl) ?_
      refine vp_callSi (W.runV (As := [.int y]) (rest := []) ⟨hx, hb, hml, hown, hts⟩ (c_X2_makeOf l D ci ad z F 0 (upd hd b (hd a)) mk sz ce as np kd pu (va_up Hg b (Hg a)) Z y b (hOK_up hH (hH a ha).1 (hH a ha).2) hZ hb8 eb) (cwV 1 hts gX2_share_X2_makeOf rfl rfl rfl (by decide +kernel) ⟨Nat.le_of_ble_eq_true rfl, Nat.le_of_ble_eq_true rfl⟩) ⟨WD.fb, (va_recv hK hP (ci := 2) (q0 := 0) rfl rfl), fun U hU hW => ⟨rfl, WD.call hP hD hK hE hS hU hW⟩⟩ rfl rfl hl.1 rfl (lv_room (Nat.le_of_ble_eq_true rfl)) dX2_share_43 ⟨Nat.le_of_ble_eq_true rfl, Nat.le_of_ble_eq_true rfl⟩) (fun r43 hw43 => ?_)
      subst hw43
      exact W.iret (v := (mV mk ((va_up Hg b (Hg a)) b))) hx hb hr (fun t ht _ => ⟨⟨_, (0, (upd hd b (hd a))), rfl, Or.inr ⟨rfl, a, b, ha, hb8, ea, eb, rfl, by rw [va_up_self]⟩, by rw [ht]; exact hP, hD⟩, hS.F ht⟩) hS.2.2 dX2_share_46
set_option maxHeartbeats 4000000 in
set_option maxRecDepth 100000 in
theorem c_X2_hire (l : Launch) (D : va_G) (ci : Nat → ClassId) (ad : Nat → Nat) (z : Nat) (F : va_W) (th : Int32) (hd : Nat → Int32) (mk : Nat → Int32) (sz : Nat → Int32) (ce : Nat → Int64) (as : Nat → Int64) (np : Nat) (kd : Nat → Int32) (pu : Nat → Int64) (Hg Z : Nat → Nat) (x : Int32) (hH : hOK hd Hg) (hZ : zOK sz Z) (hN : np ≤ 60) (hMK : ∀ t, t < 9 → ¬ mk t < 0) (hRO : ∀ h, h < 8 → mV mk (Hg h) ≤ 2 → ∀ q, q < sV mk Z (Hg h) → okV np (rV ce (Hg h) q)) : Met l yX2_hire wsX2_hire ({ frames := 1, cells := 0, slots := 0, locals := 22 }) (va_Pc [.ref (ad 30), .int x] (fun U => WD D ci ad z (wM ci ad th hd mk sz ce as np kd pu ++ F) U)) (va_Qi (fun (r : Int32) (u : Int32 × Nat × (Nat → Int32) × (Nat → Int64)) => ((x < 0 ∨ 2 < x ∨ np = 60) ∧ r = -1 ∧ u = (0, np, kd, pu)) ∨ (¬ x < 0 ∧ ¬ 2 < x ∧ np < 60 ∧ r = nI np ∧ u = (0, np + 1, upd kd np x, vp_updL pu np 0))) (fun u t => va_P D vwCl (wM ci ad u.1 hd mk sz ce as u.2.1 u.2.2.1 u.2.2.2 ++ F) t.heap ∧ va_D (LA z) (wM ci ad u.1 hd mk sz ce as u.2.1 u.2.2.1 u.2.2.2 ++ F)) (LA z)) 0 0 (LA z) := by
  refine Met.ofW (cc := cX2_hire) (maxL := 2) (ret := (some .int)) (by decide) rfl ?_
  intro p e s m args below meth c s₁ B hml hv
  obtain ⟨rfl, hP, hD, hK, hE⟩ := hv
  have hx := B.exec
  have hb := B.bytes
  have hr := B.returns
  have hts := atoms_spec (ws := wsX2_hire) B.pre
  have hown : s.vm.findClass RX2 = some m.cls := findClass_of_methodNamed B.named
  have hlocks := B.notSynchronized
  have hS : va_S (LA z) s.heap s.heap [] := va_S.rf
  have hin2 : ∀ w ∈ wsX20, w ∈ wsX2_hire := by decide +kernel
  have hl := lv_entry ([.ref (ad 30), .int x]) (n := 2) (Nat.le_of_ble_eq_true rfl)
  rw [lg_entry_eq]
  generalize (lg_sl ([.ref (ad 30), .int x]) ++ List.replicate (2 - (lg_sl ([.ref (ad 30), .int x])).length) Slot.unset).toArray = ls at hl ⊢
  have hl : lv_has ls 2 [(0, .ref (ad 30)), (1, .int x)] := hl
  refine lv_aload_n hx hb dX2_hire_0 rfl (lv_at hl 0 rfl) ?_
  refine lv_iconst (v := 0) hx hb dX2_hire_1 (by decide) ?_
  refine va_put (D := D) (ci := 2) (ty := .int) (C := RX2) (T := TX2) (N := 9) hx hb hts hin2 tyX2 tyX2_ok nmX2 hown hK hP hD hS 0 rfl rfl 0 (by decide) (hts (.fieldLink RX2 32 "DutyRotaModel" "thrown" "I") (by decide +kernel)) (fun _ h9 => h9) rfl (by decide +kernel) rfl rfl (Nat.le_of_ble_eq_true rfl) dX2_hire_2 (fun H locs hP hD hS => ?_)
  have hP : va_P D vwCl (wM ci ad 0 hd mk sz ce as np kd pu ++ F) H := hP
  have hD : va_D (LA z) (wM ci ad 0 hd mk sz ce as np kd pu ++ F) := hD
  refine lv_iload_n hx hb dX2_hire_5 rfl (lv_at hl 1 rfl) ?_
  refine lv_iconst (v := 0) hx hb dX2_hire_6 (by decide) ?_
  refine lv_iconst (v := 2) hx hb dX2_hire_7 (by decide) ?_
  refine vp_callSi (W.runS (As := [.int x, .int 0, .int 2]) (rest := []) ⟨hx, hb, hml, hown, hts⟩ (c_X2_outside l x 0 2 ) (va_cwS 3 hts gX2_hire_X2_outside rfl rfl rfl (by decide +kernel) ⟨Nat.le_of_ble_eq_true rfl, Nat.le_of_ble_eq_true rfl⟩) ⟨fb0, fun U hU hW => ⟨rfl, trivial⟩⟩ rfl rfl hl.1 rfl (lv_room (Nat.le_of_ble_eq_true rfl)) dX2_hire_8 ⟨Nat.le_of_ble_eq_true rfl, Nat.le_of_ble_eq_true rfl⟩) (fun r8 hw8 => ?_)
  rcases hw8 with ⟨rfl, h8⟩ | ⟨rfl, h8⟩
  · skip
    refine lv_if_ne (tgt := 23) hx hb dX2_hire_11 (by decide) (fun c11 => ?_) (fun c11 => absurd c11 (by decide))
    refine lv_iconst (v := -1) hx hb dX2_hire_23 (by decide) ?_
    exact W.iret (v := (-1)) hx hb hr (fun t ht _ => ⟨⟨_, (0, np, kd, pu), rfl, Or.inl ⟨h8.elim Or.inl (fun q => Or.inr (Or.inl q)), rfl, rfl⟩, by rw [ht]; exact hP, hD⟩, hS.F ht⟩) hS.2.2 dX2_hire_24
  · skip
    refine lv_if_ne (tgt := 23) hx hb dX2_hire_11 (by decide) (fun c11 => absurd c11 (by decide)) (fun c11 => ?_)
    refine lv_aload_n hx hb dX2_hire_14 rfl (lv_at hl 0 rfl) ?_
    refine va_get (D := D) (ci := 2) (C := RX2) (T := TX2) (N := 9) hx hb hts hin2 hown hK hP 0 rfl rfl 6 (by decide) (hts (.fieldLink RX2 40 "DutyRotaModel" "persons" "I") (by decide +kernel)) (fun _ h9 => h9) rfl dX2_hire_15 ?_
    refine lv_bipush (v := 60) hx hb dX2_hire_18 (by decide) ?_
    refine lv_icmp_ne (tgt := 25) hx hb dX2_hire_20 (by decide) (fun c20 => ?_) (fun c20 => ?_)
    · skip
      have hn6 := nI60 hN c20
      refine lv_aload_n hx hb dX2_hire_25 rfl (lv_at hl 0 rfl) ?_
      refine va_get (D := D) (ci := 2) (C := RX2) (T := TX2) (N := 9) hx hb hts hin2 hown hK hP 0 rfl rfl 7 (by decide) (hts (.fieldLink RX2 26 "DutyRotaModel" "kinds" "[I") (by decide +kernel)) (fun _ h9 => h9) rfl dX2_hire_26 ?_
      refine lv_aload_n hx hb dX2_hire_29 rfl (lv_at hl 0 rfl) ?_
      refine va_get (D := D) (ci := 2) (C := RX2) (T := TX2) (N := 9) hx hb hts hin2 hown hK hP 0 rfl rfl 6 (by decide) (hts (.fieldLink RX2 40 "DutyRotaModel" "persons" "I") (by decide +kernel)) (fun _ h9 => h9) rfl dX2_hire_30 ?_
      refine lv_iload_n hx hb dX2_hire_33 rfl (lv_at hl 1 rfl) ?_
      refine rw_ist hx hb hK hP hD hS 6 0 rfl rfl (j := np) (rfl) (hn6) (by decide) (ws' := wM ci ad 0 hd mk sz ce as np (upd kd np x) pu ++ F) rfl dX2_hire_34 (fun H locs hP hD hS => ?_)
      refine lv_aload_n hx hb dX2_hire_35 rfl (lv_at hl 0 rfl) ?_
      refine va_get (D := D) (ci := 2) (C := RX2) (T := TX2) (N := 9) hx hb hts hin2 hown hK hP 0 rfl rfl 8 (by decide) (hts (.fieldLink RX2 29 "DutyRotaModel" "purses" "[J") (by decide +kernel)) (fun _ h9 => h9) rfl dX2_hire_36 ?_
      refine lv_aload_n hx hb dX2_hire_39 rfl (lv_at hl 0 rfl) ?_
      refine va_get (D := D) (ci := 2) (C := RX2) (T := TX2) (N := 9) hx hb hts hin2 hown hK hP 0 rfl rfl 6 (by decide) (hts (.fieldLink RX2 40 "DutyRotaModel" "persons" "I") (by decide +kernel)) (fun _ h9 => h9) rfl dX2_hire_40 ?_
      refine lv_lconst (v := 0) hx hb dX2_hire_43 (by decide) ?_
      refine rw_lst hx hb hK hP hD hS 7 1 rfl rfl (j := np) (rfl) (hn6) (by decide) (ws' := wM ci ad 0 hd mk sz ce as np (upd kd np x) (vp_updL pu np 0) ++ F) rfl dX2_hire_44 (fun H locs hP hD hS => ?_)
      refine lv_aload_n hx hb dX2_hire_45 rfl (lv_at hl 0 rfl) ?_
      refine lv_dup hx hb dX2_hire_46 rfl ?_
      refine va_get (D := D) (ci := 2) (C := RX2) (T := TX2) (N := 9) hx hb hts hin2 hown hK hP 0 rfl rfl 6 (by decide) (hts (.fieldLink RX2 40 "DutyRotaModel" "persons" "I") (by decide +kernel)) (fun _ h9 => h9) rfl dX2_hire_47 ?_
      refine lv_iconst (v := 1) hx hb dX2_hire_50 (by decide) ?_
      refine lv_iadd hx hb dX2_hire_51 ?_
      refine rw_topi (y := (nI (np + 1))) (nI_1 np) ?_
      refine va_put (D := D) (ci := 2) (ty := .int) (C := RX2) (T := TX2) (N := 9) hx hb hts hin2 tyX2 tyX2_ok nmX2 hown hK hP hD hS 0 rfl rfl 6 (by decide) (hts (.fieldLink RX2 40 "DutyRotaModel" "persons" "I") (by decide +kernel)) (fun _ h9 => h9) rfl (by decide +kernel) rfl rfl (Nat.le_of_ble_eq_true rfl) dX2_hire_52 (fun H locs hP hD hS => ?_)
      have hP : va_P D vwCl (wM ci ad 0 hd mk sz ce as (np + 1) (upd kd np x) (vp_updL pu np 0) ++ F) H := hP
      have hD : va_D (LA z) (wM ci ad 0 hd mk sz ce as (np + 1) (upd kd np x) (vp_updL pu np 0) ++ F) := hD
      refine lv_aload_n hx hb dX2_hire_55 rfl (lv_at hl 0 rfl) ?_
      refine va_get (D := D) (ci := 2) (C := RX2) (T := TX2) (N := 9) hx hb hts hin2 hown hK hP 0 rfl rfl 6 (by decide) (hts (.fieldLink RX2 40 "DutyRotaModel" "persons" "I") (by decide +kernel)) (fun _ h9 => h9) rfl dX2_hire_56 ?_
      refine lv_iconst (v := 1) hx hb dX2_hire_59 (by decide) ?_
      refine lv_isub hx hb dX2_hire_60 ?_
      refine rw_topi (y := (nI np)) (nI_pred np) ?_
      exact W.iret (v := (nI np)) hx hb hr (fun t ht _ => ⟨⟨_, (0, (np + 1), (upd kd np x), (vp_updL pu np 0)), rfl, Or.inr ⟨h8.1, h8.2, hn6, rfl, rfl⟩, by rw [ht]; exact hP, hD⟩, hS.F ht⟩) hS.2.2 dX2_hire_61
    · skip
      have hn6 := nI60' hN c20
      refine lv_iconst (v := -1) hx hb dX2_hire_23 (by decide) ?_
      exact W.iret (v := (-1)) hx hb hr (fun t ht _ => ⟨⟨_, (0, np, kd, pu), rfl, Or.inl ⟨Or.inr (Or.inr hn6), rfl, rfl⟩, by rw [ht]; exact hP, hD⟩, hS.F ht⟩) hS.2.2 dX2_hire_24
set_option maxHeartbeats 4000000 in
set_option maxRecDepth 100000 in
theorem c_X2_put (l : Launch) (D : va_G) (ci : Nat → ClassId) (ad : Nat → Nat) (z : Nat) (F : va_W) (th : Int32) (hd : Nat → Int32) (mk : Nat → Int32) (sz : Nat → Int32) (ce : Nat → Int64) (as : Nat → Int64) (np : Nat) (kd : Nat → Int32) (pu : Nat → Int64) (Hg Z : Nat → Nat) (x i y : Int32) (hH : hOK hd Hg) (hZ : zOK sz Z) (hN : np ≤ 60) (hMK : ∀ t, t < 9 → ¬ mk t < 0) (hRO : ∀ h, h < 8 → mV mk (Hg h) ≤ 2 → ∀ q, q < sV mk Z (Hg h) → okV np (rV ce (Hg h) q)) : Met l yX2_put wsX2_put ({ frames := 2, cells := 0, slots := 0, locals := 43 }) (va_Pc [.ref (ad 30), .int x, .int i, .int y] (fun U => WD D ci ad z (wM ci ad th hd mk sz ce as np kd pu ++ F) U)) (va_Qi (fun (r : Int32) (u : Int32 × (Nat → Int64)) => (u.1 = 1 ∧ badH x ∧ u.2 = ce) ∨ (u.1 = 2 ∧ ¬ badH x ∧ ¬ y = -1 ∧ (y < 0 ∨ nI np ≤ y) ∧ u.2 = ce) ∨ (u.1 = 0 ∧ ∃ a f, a < 8 ∧ x = nI a ∧ (y = -1 ∨ ∃ k, k < np ∧ y = nI k) ∧ rowIs ce (Hg a) f u.2 ∧ putP (mV mk (Hg a)) (sV mk Z (Hg a)) (rV ce (Hg a)) kd np i y r f)) (fun u t => va_P D vwCl (wM ci ad u.1 hd mk sz u.2 as np kd pu ++ F) t.heap ∧ va_D (LA z) (wM ci ad u.1 hd mk sz u.2 as np kd pu ++ F)) (LA z)) 0 0 (LA z) := by
  refine Met.ofW (cc := cX2_put) (maxL := 5) (ret := (some .int)) (by decide) rfl ?_
  intro p e s m args below meth c s₁ B hml hv
  obtain ⟨rfl, hP, hD, hK, hE⟩ := hv
  have hx := B.exec
  have hb := B.bytes
  have hr := B.returns
  have hts := atoms_spec (ws := wsX2_put) B.pre
  have hown : s.vm.findClass RX2 = some m.cls := findClass_of_methodNamed B.named
  have hlocks := B.notSynchronized
  have hS : va_S (LA z) s.heap s.heap [] := va_S.rf
  have hin2 : ∀ w ∈ wsX20, w ∈ wsX2_put := by decide +kernel
  have hl := lv_entry ([.ref (ad 30), .int x, .int i, .int y]) (n := 5) (Nat.le_of_ble_eq_true rfl)
  rw [lg_entry_eq]
  generalize (lg_sl ([.ref (ad 30), .int x, .int i, .int y]) ++ List.replicate (5 - (lg_sl ([.ref (ad 30), .int x, .int i, .int y])).length) Slot.unset).toArray = ls at hl ⊢
  have hl : lv_has ls 5 [(0, .ref (ad 30)), (1, .int x), (2, .int i), (3, .int y)] := hl
  refine lv_aload_n hx hb dX2_put_0 rfl (lv_at hl 0 rfl) ?_
  refine lv_iload_n hx hb dX2_put_1 rfl (lv_at hl 1 rfl) ?_
  refine vp_callSi (W.runS (As := [.int x]) (rest := [.ref (ad 30)]) ⟨hx, hb, hml, hown, hts⟩ (c_X2_noHook l x ) (va_cwS 1 hts gX2_put_X2_noHook rfl rfl rfl (by decide +kernel) ⟨Nat.le_of_ble_eq_true rfl, Nat.le_of_ble_eq_true rfl⟩) ⟨fb0, fun U hU hW => ⟨rfl, trivial⟩⟩ rfl rfl hl.1 rfl (lv_room (Nat.le_of_ble_eq_true rfl)) dX2_put_2 ⟨Nat.le_of_ble_eq_true rfl, Nat.le_of_ble_eq_true rfl⟩) (fun r2 hw2 => ?_)
  rcases hw2 with ⟨rfl, h2⟩ | ⟨rfl, h2⟩
  · skip
    refine lv_iload_n hx hb dX2_put_5 rfl (lv_at hl 3 rfl) ?_
    refine lv_iconst (v := -1) hx hb dX2_put_6 (by decide) ?_
    refine lv_icmp_eq (tgt := 22) hx hb dX2_put_7 (by decide) (fun c7 => ?_) (fun c7 => ?_)
    · skip
      refine lv_iconst (v := 0) hx hb dX2_put_22 (by decide) ?_
      refine va_calli (va_runV (As := [.int 1, .int 0]) (rest := []) ⟨hx, hb, hml, hown, hts⟩ (c_X2_fails l D ci ad z F th hd mk sz ce as np kd pu 1 0 ) (cwV 2 hts gX2_put_X2_fails rfl rfl rfl (by decide +kernel) ⟨Nat.le_of_ble_eq_true rfl, Nat.le_of_ble_eq_true rfl⟩) ⟨WD.fb, (va_recv hK hP (ci := 2) (q0 := 0) rfl rfl), fun U hU hW => ⟨rfl, WD.call hP hD hK hE hS hU hW⟩⟩ rfl rfl hl.1 rfl (lv_room (Nat.le_of_ble_eq_true rfl)) dX2_put_23 ⟨Nat.le_of_ble_eq_true rfl, Nat.le_of_ble_eq_true rfl⟩) hS (fun q _ h => h) (fun q h => h) (fun r23 u23 t23 H locs ht23 hvm23 hw23 hB23 hz23 hk23 hS => ?_)
      obtain ⟨hP, hD⟩ := hB23
      rw [ht23] at hP
      rcases hw23 with ⟨rfl, h23⟩ | ⟨rfl, h23⟩
      rotate_left
      · exact absurd h23.1 (by decide)
      have hu23 : u23 = 1 := u1 h23
      subst hu23
      refine lv_if_eq (tgt := 31) hx hb dX2_put_26 (by decide) (fun c26 => absurd c26 (by decide)) (fun c26 => ?_)
      refine lv_iconst (v := 0) hx hb dX2_put_29 (by decide) ?_
      exact W.iret (v := 0) hx hb hr (fun t ht _ => ⟨⟨_, (1, ce), rfl, Or.inl ⟨rfl, h2, rfl⟩, by rw [ht]; exact hP, hD⟩, hS.F ht⟩) hS.2.2 dX2_put_30
    · skip
      refine lv_aload_n hx hb dX2_put_10 rfl (lv_at hl 0 rfl) ?_
      refine lv_iload_n hx hb dX2_put_11 rfl (lv_at hl 3 rfl) ?_
      refine vp_callSi (W.runV (As := [.int y]) (rest := [.int 1, .ref (ad 30)]) ⟨hx, hb, hml, hown, hts⟩ (c_X2_noPerson l D ci ad z F th hd mk sz ce as np kd pu y hN) (cwV 1 hts gX2_put_X2_noPerson rfl rfl rfl (by decide +kernel) ⟨Nat.le_of_ble_eq_true rfl, Nat.le_of_ble_eq_true rfl⟩) ⟨WD.fb, (va_recv hK hP (ci := 2) (q0 := 0) rfl rfl), fun U hU hW => ⟨rfl, WD.call hP hD hK hE hS hU hW⟩⟩ rfl rfl hl.1 rfl (lv_room (Nat.le_of_ble_eq_true rfl)) dX2_put_12 ⟨Nat.le_of_ble_eq_true rfl, Nat.le_of_ble_eq_true rfl⟩) (fun r12 hw12 => ?_)
      rcases hw12 with ⟨rfl, h12⟩ | ⟨rfl, h12⟩
      · skip
        refine lv_if_eq (tgt := 22) hx hb dX2_put_15 (by decide) (fun c15 => absurd c15 (by decide)) (fun c15 => ?_)
        refine lv_iconst (v := 1) hx hb dX2_put_18 (by decide) ?_
        refine lv_goto (tgt := 23) hx hb dX2_put_19 (by decide) ?_
        refine va_calli (va_runV (As := [.int 1, .int 1]) (rest := []) ⟨hx, hb, hml, hown, hts⟩ (c_X2_fails l D ci ad z F th hd mk sz ce as np kd pu 1 1 ) (cwV 2 hts gX2_put_X2_fails rfl rfl rfl (by decide +kernel) ⟨Nat.le_of_ble_eq_true rfl, Nat.le_of_ble_eq_true rfl⟩) ⟨WD.fb, (va_recv hK hP (ci := 2) (q0 := 0) rfl rfl), fun U hU hW => ⟨rfl, WD.call hP hD hK hE hS hU hW⟩⟩ rfl rfl hl.1 rfl (lv_room (Nat.le_of_ble_eq_true rfl)) dX2_put_23 ⟨Nat.le_of_ble_eq_true rfl, Nat.le_of_ble_eq_true rfl⟩) hS (fun q _ h => h) (fun q h => h) (fun r23 u23 t23 H locs ht23 hvm23 hw23 hB23 hz23 hk23 hS => ?_)
        obtain ⟨hP, hD⟩ := hB23
        rw [ht23] at hP
        rcases hw23 with ⟨rfl, h23⟩ | ⟨rfl, h23⟩
        rotate_left
        · exact absurd h23.1 (by decide)
        have hu23 : u23 = 1 := u1' h23
        subst hu23
        refine lv_if_eq (tgt := 31) hx hb dX2_put_26 (by decide) (fun c26 => absurd c26 (by decide)) (fun c26 => ?_)
        refine lv_iconst (v := 0) hx hb dX2_put_29 (by decide) ?_
        exact W.iret (v := 0) hx hb hr (fun t ht _ => ⟨⟨_, (1, ce), rfl, Or.inl ⟨rfl, h2, rfl⟩, by rw [ht]; exact hP, hD⟩, hS.F ht⟩) hS.2.2 dX2_put_30
      · skip
        obtain ⟨p9, hp9, ep9⟩ := h12
        refine lv_if_eq (tgt := 22) hx hb dX2_put_15 (by decide) (fun c15 => ?_) (fun c15 => absurd c15 (by decide))
        refine lv_iconst (v := 0) hx hb dX2_put_22 (by decide) ?_
        refine va_calli (va_runV (As := [.int 1, .int 0]) (rest := []) ⟨hx, hb, hml, hown, hts⟩ (c_X2_fails l D ci ad z F th hd mk sz ce as np kd pu 1 0 ) (cwV 2 hts gX2_put_X2_fails rfl rfl rfl (by decide +kernel) ⟨Nat.le_of_ble_eq_true rfl, Nat.le_of_ble_eq_true rfl⟩) ⟨WD.fb, (va_recv hK hP (ci := 2) (q0 := 0) rfl rfl), fun U hU hW => ⟨rfl, WD.call hP hD hK hE hS hU hW⟩⟩ rfl rfl hl.1 rfl (lv_room (Nat.le_of_ble_eq_true rfl)) dX2_put_23 ⟨Nat.le_of_ble_eq_true rfl, Nat.le_of_ble_eq_true rfl⟩) hS (fun q _ h => h) (fun q h => h) (fun r23 u23 t23 H locs ht23 hvm23 hw23 hB23 hz23 hk23 hS => ?_)
        obtain ⟨hP, hD⟩ := hB23
        rw [ht23] at hP
        rcases hw23 with ⟨rfl, h23⟩ | ⟨rfl, h23⟩
        rotate_left
        · exact absurd h23.1 (by decide)
        have hu23 : u23 = 1 := u1 h23
        subst hu23
        refine lv_if_eq (tgt := 31) hx hb dX2_put_26 (by decide) (fun c26 => absurd c26 (by decide)) (fun c26 => ?_)
        refine lv_iconst (v := 0) hx hb dX2_put_29 (by decide) ?_
        exact W.iret (v := 0) hx hb hr (fun t ht _ => ⟨⟨_, (1, ce), rfl, Or.inl ⟨rfl, h2, rfl⟩, by rw [ht]; exact hP, hD⟩, hS.F ht⟩) hS.2.2 dX2_put_30
  · skip
    obtain ⟨a, ha, ea⟩ := h2
    refine lv_iload_n hx hb dX2_put_5 rfl (lv_at hl 3 rfl) ?_
    refine lv_iconst (v := -1) hx hb dX2_put_6 (by decide) ?_
    refine lv_icmp_eq (tgt := 22) hx hb dX2_put_7 (by decide) (fun c7 => ?_) (fun c7 => ?_)
    · skip
      refine lv_iconst (v := 0) hx hb dX2_put_22 (by decide) ?_
      refine va_calli (va_runV (As := [.int 0, .int 0]) (rest := []) ⟨hx, hb, hml, hown, hts⟩ (c_X2_fails l D ci ad z F th hd mk sz ce as np kd pu 0 0 ) (cwV 2 hts gX2_put_X2_fails rfl rfl rfl (by decide +kernel) ⟨Nat.le_of_ble_eq_true rfl, Nat.le_of_ble_eq_true rfl⟩) ⟨WD.fb, (va_recv hK hP (ci := 2) (q0 := 0) rfl rfl), fun U hU hW => ⟨rfl, WD.call hP hD hK hE hS hU hW⟩⟩ rfl rfl hl.1 rfl (lv_room (Nat.le_of_ble_eq_true rfl)) dX2_put_23 ⟨Nat.le_of_ble_eq_true rfl, Nat.le_of_ble_eq_true rfl⟩) hS (fun q _ h => h) (fun q h => h) (fun r23 u23 t23 H locs ht23 hvm23 hw23 hB23 hz23 hk23 hS => ?_)
      obtain ⟨hP, hD⟩ := hB23
      rw [ht23] at hP
      rcases hw23 with ⟨rfl, h23⟩ | ⟨rfl, h23⟩
      · exact absurd rfl (h23.elim (fun q => q.1) (fun q => q.2.1))
      have hu23 : u23 = 0 := h23.2.2
      subst hu23
      refine lv_if_eq (tgt := 31) hx hb dX2_put_26 (by decide) (fun c26 => ?_) (fun c26 => absurd c26 (by decide))
      refine lv_aload_n hx hb dX2_put_31 rfl (lv_at hl 0 rfl) ?_
      refine lv_iload_n hx hb dX2_put_32 rfl (lv_at hl 1 rfl) ?_
      refine vp_callSi (W.runV (As := [.int x]) (rest := []) ⟨hx, hb, hml, hown, hts⟩ (c_X2_makeOf l D ci ad z F 0 hd mk sz ce as np kd pu Hg Z x a hH hZ ha ea) (cwV 1 hts gX2_put_X2_makeOf rfl rfl rfl (by decide +kernel) ⟨Nat.le_of_ble_eq_true rfl, Nat.le_of_ble_eq_true rfl⟩) ⟨WD.fb, (va_recv hK hP (ci := 2) (q0 := 0) rfl rfl), fun U hU hW => ⟨rfl, WD.call hP hD hK hE hS hU hW⟩⟩ rfl rfl hl.1 rfl (lv_room (Nat.le_of_ble_eq_true rfl)) dX2_put_33 ⟨Nat.le_of_ble_eq_true rfl, Nat.le_of_ble_eq_true rfl⟩) (fun r33 hw33 => ?_)
      subst hw33
      refine lv_istore (lv' := [(4, .int (mV mk (Hg a))), (0, .ref (ad 30)), (1, .int x), (2, .int i), (3, .int y)]) hx hb dX2_put_36 hl (by decide) rfl (fun ls hl => ?_)
      refine lv_iload hx hb dX2_put_38 (lv_at hl 0 rfl) ?_
      refine lv_bipush (v := 6) hx hb dX2_put_40 (by decide) ?_
      refine lv_icmp_ne (tgt := 47) hx hb dX2_put_42 (by decide) (fun c42 => ?_) (fun c42 => ?_)
      · skip
        refine lv_iload hx hb dX2_put_47 (lv_at hl 0 rfl) ?_
        refine vp_callSi (W.runS (As := [.int (mV mk (Hg a))]) (rest := []) ⟨hx, hb, hml, hown, hts⟩ (c_X2_isRoster l (mV mk (Hg a)) ) (va_cwS 1 hts gX2_put_X2_isRoster rfl rfl rfl (by decide +kernel) ⟨Nat.le_of_ble_eq_true rfl, Nat.le_of_ble_eq_true rfl⟩) ⟨fb0, fun U hU hW => ⟨rfl, trivial⟩⟩ rfl rfl hl.1 rfl (lv_room (Nat.le_of_ble_eq_true rfl)) dX2_put_49 ⟨Nat.le_of_ble_eq_true rfl, Nat.le_of_ble_eq_true rfl⟩) (fun r49 hw49 => ?_)
        rcases hw49 with ⟨rfl, h49⟩ | ⟨rfl, h49⟩
        · skip
          refine lv_if_ne (tgt := 57) hx hb dX2_put_52 (by decide) (fun c52 => ?_) (fun c52 => absurd c52 (by decide))
          refine lv_iload_n hx hb dX2_put_57 rfl (lv_at hl 3 rfl) ?_
          refine lv_iconst (v := 0) hx hb dX2_put_58 (by decide) ?_
          refine lv_aload_n hx hb dX2_put_59 rfl (lv_at hl 1 rfl) ?_
          refine lv_iload_n hx hb dX2_put_60 rfl (lv_at hl 2 rfl) ?_
          refine vp_callSi (W.runV (As := [.int x]) (rest := [.int 0, .int i]) ⟨hx, hb, hml, hown, hts⟩ (c_X2_sizeOf l D ci ad z F 0 hd mk sz ce as np kd pu Hg Z x a hH hZ ha ea) (cwV 1 hts gX2_put_X2_sizeOf rfl rfl rfl (by decide +kernel) ⟨Nat.le_of_ble_eq_true rfl, Nat.le_of_ble_eq_true rfl⟩) ⟨WD.fb, (va_recv hK hP (ci := 2) (q0 := 0) rfl rfl), fun U hU hW => ⟨rfl, WD.call hP hD hK hE hS hU hW⟩⟩ rfl rfl hl.1 rfl (lv_room (Nat.le_of_ble_eq_true rfl)) dX2_put_61 ⟨Nat.le_of_ble_eq_true rfl, Nat.le_of_ble_eq_true rfl⟩) (fun r61 hw61 => ?_)
          subst hw61
          refine lv_iconst (v := 1) hx hb dX2_put_64 (by decide) ?_
          refine lv_isub hx hb dX2_put_65 ?_
          have hS40 : sV mk Z (Hg a) ≤ 40 := sV_40 hZ (hH a ha).1
          refine vp_callSi (W.runS (As := [.int i, .int 0, .int ((nI (sV mk Z (Hg a))) - 1)]) (rest := []) ⟨hx, hb, hml, hown, hts⟩ (c_X2_outside l i 0 ((nI (sV mk Z (Hg a))) - 1) ) (va_cwS 3 hts gX2_put_X2_outside rfl rfl rfl (by decide +kernel) ⟨Nat.le_of_ble_eq_true rfl, Nat.le_of_ble_eq_true rfl⟩) ⟨fb0, fun U hU hW => ⟨rfl, trivial⟩⟩ rfl rfl hl.1 rfl (lv_room (Nat.le_of_ble_eq_true rfl)) dX2_put_66 ⟨Nat.le_of_ble_eq_true rfl, Nat.le_of_ble_eq_true rfl⟩) (fun r66 hw66 => ?_)
          rcases hw66 with ⟨rfl, h66⟩ | ⟨rfl, h66⟩
          · skip
            refine lv_if_eq (tgt := 74) hx hb dX2_put_69 (by decide) (fun c69 => absurd c69 (by decide)) (fun c69 => ?_)
            refine lv_iconst (v := 3) hx hb dX2_put_72 (by decide) ?_
            exact W.iret (v := 3) hx hb hr (fun t ht _ => ⟨⟨_, (0, ce), rfl, Or.inr (Or.inr ⟨rfl, a, _, ha, ea, Or.inl c7, rowIs_rf _ _, Or.inr (Or.inr (Or.inl ⟨h49, out_y (by omega) h66, rfl, rfl⟩))⟩), by rw [ht]; exact hP, hD⟩, hS.F ht⟩) hS.2.2 dX2_put_73
          · skip
            obtain ⟨k, hk, ek⟩ := out_n (by omega) h66
            have hta := hd_9 hH ha (mV_n2 h49)
            refine lv_if_eq (tgt := 74) hx hb dX2_put_69 (by decide) (fun c69 => ?_) (fun c69 => absurd c69 (by decide))
            refine lv_iload_n hx hb dX2_put_74 rfl (lv_at hl 4 rfl) ?_
            refine lv_iconst (v := -1) hx hb dX2_put_75 (by decide) ?_
            refine lv_icmp_eq (tgt := 95) hx hb dX2_put_76 (by decide) (fun c76 => ?_) (fun c76 => by exact absurd c7 c76)
            refine lv_aload_n hx hb dX2_put_95 rfl (lv_at hl 1 rfl) ?_
            refine va_get (D := D) (ci := 2) (C := RX2) (T := TX2) (N := 9) hx hb hts hin2 hown hK hP 0 rfl rfl 4 (by decide) (hts (.fieldLink RX2 19 "DutyRotaModel" "cells" "[J") (by decide +kernel)) (fun _ h9 => h9) rfl dX2_put_96 ?_
            refine lv_bipush (v := 40) hx hb dX2_put_99 (by decide) ?_
            refine lv_aload_n hx hb dX2_put_101 rfl (lv_at hl 1 rfl) ?_
            refine va_get (D := D) (ci := 2) (C := RX2) (T := TX2) (N := 9) hx hb hts hin2 hown hK hP 0 rfl rfl 1 (by decide) (hts (.fieldLink RX2 9 "DutyRotaModel" "held" "[I") (by decide +kernel)) (fun _ h9 => h9) rfl dX2_put_102 ?_
            refine lv_iload_n hx hb dX2_put_105 rfl (lv_at hl 2 rfl) ?_
            refine rw_ild hx hb hK hP 1 0 rfl rfl (j := a) (ea) (ha) (by decide) dX2_put_106 ?_
            refine rw_topi (y := (nI (Hg a))) (hta.2) ?_
            refine lv_imul hx hb dX2_put_107 ?_
            refine rw_topi (y := (nI (40 * Hg a))) (ix40' _) ?_
            refine lv_iload_n hx hb dX2_put_108 rfl (lv_at hl 3 rfl) ?_
            refine lv_iadd hx hb dX2_put_109 ?_
            refine rw_topi (y := (nI (40 * Hg a + k))) (by rw [ek, nI_add]) ?_
            refine lv_iload_n hx hb dX2_put_110 rfl (lv_at hl 4 rfl) ?_
            refine lv_i2l hx hb dX2_put_111 rfl ?_
            refine rw_lst hx hb hK hP hD hS 4 1 rfl rfl (j := (40 * Hg a + k)) (rfl) (by omega) (by decide) (ws' := wM ci ad 0 hd mk sz (vp_updL ce (40 * Hg a + k) y.toInt64) as np kd pu ++ F) rfl dX2_put_112 (fun H locs hP hD hS => ?_)
            refine lv_iconst (v := 0) hx hb dX2_put_113 (by decide) ?_
            exact W.iret (v := 0) hx hb hr (fun t ht _ => ⟨⟨_, (0, (vp_updL ce (40 * Hg a + k) y.toInt64)), rfl, Or.inr (Or.inr ⟨rfl, a, _, ha, ea, Or.inl c7, rowIs_up (rowIs_rf _ _) (by omega) _, Or.inr (Or.inr (Or.inr ⟨h49, k, hk, ek, Or.inr ⟨by rw [c7]; exact m1_nt hN, rfl, rfl⟩⟩))⟩), by rw [ht]; exact hP, hD⟩, hS.F ht⟩) hS.2.2 dX2_put_114
        · skip
          refine lv_if_ne (tgt := 57) hx hb dX2_put_52 (by decide) (fun c52 => absurd c52 (by decide)) (fun c52 => ?_)
          refine lv_iconst (v := 2) hx hb dX2_put_55 (by decide) ?_
          exact W.iret (v := 2) hx hb hr (fun t ht _ => ⟨⟨_, (0, ce), rfl, Or.inr (Or.inr ⟨rfl, a, _, ha, ea, Or.inl c7, rowIs_rf _ _, Or.inr (Or.inl ⟨c42, h49, rfl, rfl⟩)⟩), by rw [ht]; exact hP, hD⟩, hS.F ht⟩) hS.2.2 dX2_put_56
      · skip
        refine lv_iconst (v := 1) hx hb dX2_put_45 (by decide) ?_
        exact W.iret (v := 1) hx hb hr (fun t ht _ => ⟨⟨_, (0, ce), rfl, Or.inr (Or.inr ⟨rfl, a, _, ha, ea, Or.inl c7, rowIs_rf _ _, Or.inl ⟨c42, rfl, rfl⟩⟩), by rw [ht]; exact hP, hD⟩, hS.F ht⟩) hS.2.2 dX2_put_46
    · skip
      refine lv_aload_n hx hb dX2_put_10 rfl (lv_at hl 0 rfl) ?_
      refine lv_iload_n hx hb dX2_put_11 rfl (lv_at hl 3 rfl) ?_
      refine vp_callSi (W.runV (As := [.int y]) (rest := [.int 0, .ref (ad 30)]) ⟨hx, hb, hml, hown, hts⟩ (c_X2_noPerson l D ci ad z F th hd mk sz ce as np kd pu y hN) (cwV 1 hts gX2_put_X2_noPerson rfl rfl rfl (by decide +kernel) ⟨Nat.le_of_ble_eq_true rfl, Nat.le_of_ble_eq_true rfl⟩) ⟨WD.fb, (va_recv hK hP (ci := 2) (q0 := 0) rfl rfl), fun U hU hW => ⟨rfl, WD.call hP hD hK hE hS hU hW⟩⟩ rfl rfl hl.1 rfl (lv_room (Nat.le_of_ble_eq_true rfl)) dX2_put_12 ⟨Nat.le_of_ble_eq_true rfl, Nat.le_of_ble_eq_true rfl⟩) (fun r12 hw12 => ?_)
      rcases hw12 with ⟨rfl, h12⟩ | ⟨rfl, h12⟩
      · skip
        refine lv_if_eq (tgt := 22) hx hb dX2_put_15 (by decide) (fun c15 => absurd c15 (by decide)) (fun c15 => ?_)
        refine lv_iconst (v := 1) hx hb dX2_put_18 (by decide) ?_
        refine lv_goto (tgt := 23) hx hb dX2_put_19 (by decide) ?_
        refine va_calli (va_runV (As := [.int 0, .int 1]) (rest := []) ⟨hx, hb, hml, hown, hts⟩ (c_X2_fails l D ci ad z F th hd mk sz ce as np kd pu 0 1 ) (cwV 2 hts gX2_put_X2_fails rfl rfl rfl (by decide +kernel) ⟨Nat.le_of_ble_eq_true rfl, Nat.le_of_ble_eq_true rfl⟩) ⟨WD.fb, (va_recv hK hP (ci := 2) (q0 := 0) rfl rfl), fun U hU hW => ⟨rfl, WD.call hP hD hK hE hS hU hW⟩⟩ rfl rfl hl.1 rfl (lv_room (Nat.le_of_ble_eq_true rfl)) dX2_put_23 ⟨Nat.le_of_ble_eq_true rfl, Nat.le_of_ble_eq_true rfl⟩) hS (fun q _ h => h) (fun q h => h) (fun r23 u23 t23 H locs ht23 hvm23 hw23 hB23 hz23 hk23 hS => ?_)
        obtain ⟨hP, hD⟩ := hB23
        rw [ht23] at hP
        rcases hw23 with ⟨rfl, h23⟩ | ⟨rfl, h23⟩
        rotate_left
        · exact absurd h23.2.1 (by decide)
        have hu23 : u23 = 2 := u2 h23
        subst hu23
        refine lv_if_eq (tgt := 31) hx hb dX2_put_26 (by decide) (fun c26 => absurd c26 (by decide)) (fun c26 => ?_)
        refine lv_iconst (v := 0) hx hb dX2_put_29 (by decide) ?_
        exact W.iret (v := 0) hx hb hr (fun t ht _ => ⟨⟨_, (2, ce), rfl, Or.inr (Or.inl ⟨rfl, nbad ha ea, c7, h12, rfl⟩), by rw [ht]; exact hP, hD⟩, hS.F ht⟩) hS.2.2 dX2_put_30
      · skip
        obtain ⟨p9, hp9, ep9⟩ := h12
        refine lv_if_eq (tgt := 22) hx hb dX2_put_15 (by decide) (fun c15 => ?_) (fun c15 => absurd c15 (by decide))
        refine lv_iconst (v := 0) hx hb dX2_put_22 (by decide) ?_
        refine va_calli (va_runV (As := [.int 0, .int 0]) (rest := []) ⟨hx, hb, hml, hown, hts⟩ (c_X2_fails l D ci ad z F th hd mk sz ce as np kd pu 0 0 ) (cwV 2 hts gX2_put_X2_fails rfl rfl rfl (by decide +kernel) ⟨Nat.le_of_ble_eq_true rfl, Nat.le_of_ble_eq_true rfl⟩) ⟨WD.fb, (va_recv hK hP (ci := 2) (q0 := 0) rfl rfl), fun U hU hW => ⟨rfl, WD.call hP hD hK hE hS hU hW⟩⟩ rfl rfl hl.1 rfl (lv_room (Nat.le_of_ble_eq_true rfl)) dX2_put_23 ⟨Nat.le_of_ble_eq_true rfl, Nat.le_of_ble_eq_true rfl⟩) hS (fun q _ h => h) (fun q h => h) (fun r23 u23 t23 H locs ht23 hvm23 hw23 hB23 hz23 hk23 hS => ?_)
        obtain ⟨hP, hD⟩ := hB23
        rw [ht23] at hP
        rcases hw23 with ⟨rfl, h23⟩ | ⟨rfl, h23⟩
        · exact absurd rfl (h23.elim (fun q => q.1) (fun q => q.2.1))
        have hu23 : u23 = 0 := h23.2.2
        subst hu23
        refine lv_if_eq (tgt := 31) hx hb dX2_put_26 (by decide) (fun c26 => ?_) (fun c26 => absurd c26 (by decide))
        refine lv_aload_n hx hb dX2_put_31 rfl (lv_at hl 0 rfl) ?_
        refine lv_iload_n hx hb dX2_put_32 rfl (lv_at hl 1 rfl) ?_
        refine vp_callSi (W.runV (As := [.int x]) (rest := []) ⟨hx, hb, hml, hown, hts⟩ (c_X2_makeOf l D ci ad z F 0 hd mk sz ce as np kd pu Hg Z x a hH hZ ha ea) (cwV 1 hts gX2_put_X2_makeOf rfl rfl rfl (by decide +kernel) ⟨Nat.le_of_ble_eq_true rfl, Nat.le_of_ble_eq_true rfl⟩) ⟨WD.fb, (va_recv hK hP (ci := 2) (q0 := 0) rfl rfl), fun U hU hW => ⟨rfl, WD.call hP hD hK hE hS hU hW⟩⟩ rfl rfl hl.1 rfl (lv_room (Nat.le_of_ble_eq_true rfl)) dX2_put_33 ⟨Nat.le_of_ble_eq_true rfl, Nat.le_of_ble_eq_true rfl⟩) (fun r33 hw33 => ?_)
        subst hw33
        refine lv_istore (lv' := [(4, .int (mV mk (Hg a))), (0, .ref (ad 30)), (1, .int x), (2, .int i), (3, .int y)]) hx hb dX2_put_36 hl (by decide) rfl (fun ls hl => ?_)
        refine lv_iload hx hb dX2_put_38 (lv_at hl 0 rfl) ?_
        refine lv_bipush (v := 6) hx hb dX2_put_40 (by decide) ?_
        refine lv_icmp_ne (tgt := 47) hx hb dX2_put_42 (by decide) (fun c42 => ?_) (fun c42 => ?_)
        · skip
          refine lv_iload hx hb dX2_put_47 (lv_at hl 0 rfl) ?_
          refine vp_callSi (W.runS (As := [.int (mV mk (Hg a))]) (rest := []) ⟨hx, hb, hml, hown, hts⟩ (c_X2_isRoster l (mV mk (Hg a)) ) (va_cwS 1 hts gX2_put_X2_isRoster rfl rfl rfl (by decide +kernel) ⟨Nat.le_of_ble_eq_true rfl, Nat.le_of_ble_eq_true rfl⟩) ⟨fb0, fun U hU hW => ⟨rfl, trivial⟩⟩ rfl rfl hl.1 rfl (lv_room (Nat.le_of_ble_eq_true rfl)) dX2_put_49 ⟨Nat.le_of_ble_eq_true rfl, Nat.le_of_ble_eq_true rfl⟩) (fun r49 hw49 => ?_)
          rcases hw49 with ⟨rfl, h49⟩ | ⟨rfl, h49⟩
          · skip
            refine lv_if_ne (tgt := 57) hx hb dX2_put_52 (by decide) (fun c52 => ?_) (fun c52 => absurd c52 (by decide))
            refine lv_iload_n hx hb dX2_put_57 rfl (lv_at hl 3 rfl) ?_
            refine lv_iconst (v := 0) hx hb dX2_put_58 (by decide) ?_
            refine lv_aload_n hx hb dX2_put_59 rfl (lv_at hl 1 rfl) ?_
            refine lv_iload_n hx hb dX2_put_60 rfl (lv_at hl 2 rfl) ?_
            refine vp_callSi (W.runV (As := [.int x]) (rest := [.int 0, .int i]) ⟨hx, hb, hml, hown, hts⟩ (c_X2_sizeOf l D ci ad z F 0 hd mk sz ce as np kd pu Hg Z x a hH hZ ha ea) (cwV 1 hts gX2_put_X2_sizeOf rfl rfl rfl (by decide +kernel) ⟨Nat.le_of_ble_eq_true rfl, Nat.le_of_ble_eq_true rfl⟩) ⟨WD.fb, (va_recv hK hP (ci := 2) (q0 := 0) rfl rfl), fun U hU hW => ⟨rfl, WD.call hP hD hK hE hS hU hW⟩⟩ rfl rfl hl.1 rfl (lv_room (Nat.le_of_ble_eq_true rfl)) dX2_put_61 ⟨Nat.le_of_ble_eq_true rfl, Nat.le_of_ble_eq_true rfl⟩) (fun r61 hw61 => ?_)
            subst hw61
            refine lv_iconst (v := 1) hx hb dX2_put_64 (by decide) ?_
            refine lv_isub hx hb dX2_put_65 ?_
            have hS40 : sV mk Z (Hg a) ≤ 40 := sV_40 hZ (hH a ha).1
            refine vp_callSi (W.runS (As := [.int i, .int 0, .int ((nI (sV mk Z (Hg a))) - 1)]) (rest := []) ⟨hx, hb, hml, hown, hts⟩ (c_X2_outside l i 0 ((nI (sV mk Z (Hg a))) - 1) ) (va_cwS 3 hts gX2_put_X2_outside rfl rfl rfl (by decide +kernel) ⟨Nat.le_of_ble_eq_true rfl, Nat.le_of_ble_eq_true rfl⟩) ⟨fb0, fun U hU hW => ⟨rfl, trivial⟩⟩ rfl rfl hl.1 rfl (lv_room (Nat.le_of_ble_eq_true rfl)) dX2_put_66 ⟨Nat.le_of_ble_eq_true rfl, Nat.le_of_ble_eq_true rfl⟩) (fun r66 hw66 => ?_)
            rcases hw66 with ⟨rfl, h66⟩ | ⟨rfl, h66⟩
            · skip
              refine lv_if_eq (tgt := 74) hx hb dX2_put_69 (by decide) (fun c69 => absurd c69 (by decide)) (fun c69 => ?_)
              refine lv_iconst (v := 3) hx hb dX2_put_72 (by decide) ?_
              exact W.iret (v := 3) hx hb hr (fun t ht _ => ⟨⟨_, (0, ce), rfl, Or.inr (Or.inr ⟨rfl, a, _, ha, ea, Or.inr ⟨p9, hp9, ep9⟩, rowIs_rf _ _, Or.inr (Or.inr (Or.inl ⟨h49, out_y (by omega) h66, rfl, rfl⟩))⟩), by rw [ht]; exact hP, hD⟩, hS.F ht⟩) hS.2.2 dX2_put_73
            · skip
              obtain ⟨k, hk, ek⟩ := out_n (by omega) h66
              have hta := hd_9 hH ha (mV_n2 h49)
              refine lv_if_eq (tgt := 74) hx hb dX2_put_69 (by decide) (fun c69 => ?_) (fun c69 => absurd c69 (by decide))
              refine lv_iload_n hx hb dX2_put_74 rfl (lv_at hl 4 rfl) ?_
              refine lv_iconst (v := -1) hx hb dX2_put_75 (by decide) ?_
              refine lv_icmp_eq (tgt := 95) hx hb dX2_put_76 (by decide) (fun c76 => by exact absurd c76 c7) (fun c76 => ?_)
              refine lv_iload hx hb dX2_put_79 (lv_at hl 0 rfl) ?_
              refine lv_aload_n hx hb dX2_put_81 rfl (lv_at hl 1 rfl) ?_
              refine va_get (D := D) (ci := 2) (C := RX2) (T := TX2) (N := 9) hx hb hts hin2 hown hK hP 0 rfl rfl 7 (by decide) (hts (.fieldLink RX2 26 "DutyRotaModel" "kinds" "[I") (by decide +kernel)) (fun _ h9 => h9) rfl dX2_put_82 ?_
              refine lv_iload_n hx hb dX2_put_85 rfl (lv_at hl 4 rfl) ?_
              refine rw_ild hx hb hK hP 6 0 rfl rfl (j := p9) (ep9) (by omega) (by decide) dX2_put_86 ?_
              refine vp_callSi (W.runS (As := [.int (mV mk (Hg a)), .int (kd p9)]) (rest := []) ⟨hx, hb, hml, hown, hts⟩ (c_X2_takes l (mV mk (Hg a)) (kd p9) ) (va_cwS 2 hts gX2_put_X2_takes rfl rfl rfl (by decide +kernel) ⟨Nat.le_of_ble_eq_true rfl, Nat.le_of_ble_eq_true rfl⟩) ⟨fb0, fun U hU hW => ⟨rfl, trivial⟩⟩ rfl rfl hl.1 rfl (lv_room (Nat.le_of_ble_eq_true rfl)) dX2_put_87 ⟨Nat.le_of_ble_eq_true rfl, Nat.le_of_ble_eq_true rfl⟩) (fun r87 hw87 => ?_)
              rcases hw87 with ⟨rfl, h87⟩ | ⟨rfl, h87⟩
              · skip
                refine lv_if_ne (tgt := 95) hx hb dX2_put_90 (by decide) (fun c90 => ?_) (fun c90 => absurd c90 (by decide))
                refine lv_aload_n hx hb dX2_put_95 rfl (lv_at hl 1 rfl) ?_
                refine va_get (D := D) (ci := 2) (C := RX2) (T := TX2) (N := 9) hx hb hts hin2 hown hK hP 0 rfl rfl 4 (by decide) (hts (.fieldLink RX2 19 "DutyRotaModel" "cells" "[J") (by decide +kernel)) (fun _ h9 => h9) rfl dX2_put_96 ?_
                refine lv_bipush (v := 40) hx hb dX2_put_99 (by decide) ?_
                refine lv_aload_n hx hb dX2_put_101 rfl (lv_at hl 1 rfl) ?_
                refine va_get (D := D) (ci := 2) (C := RX2) (T := TX2) (N := 9) hx hb hts hin2 hown hK hP 0 rfl rfl 1 (by decide) (hts (.fieldLink RX2 9 "DutyRotaModel" "held" "[I") (by decide +kernel)) (fun _ h9 => h9) rfl dX2_put_102 ?_
                refine lv_iload_n hx hb dX2_put_105 rfl (lv_at hl 2 rfl) ?_
                refine rw_ild hx hb hK hP 1 0 rfl rfl (j := a) (ea) (ha) (by decide) dX2_put_106 ?_
                refine rw_topi (y := (nI (Hg a))) (hta.2) ?_
                refine lv_imul hx hb dX2_put_107 ?_
                refine rw_topi (y := (nI (40 * Hg a))) (ix40' _) ?_
                refine lv_iload_n hx hb dX2_put_108 rfl (lv_at hl 3 rfl) ?_
                refine lv_iadd hx hb dX2_put_109 ?_
                refine rw_topi (y := (nI (40 * Hg a + k))) (by rw [ek, nI_add]) ?_
                refine lv_iload_n hx hb dX2_put_110 rfl (lv_at hl 4 rfl) ?_
                refine lv_i2l hx hb dX2_put_111 rfl ?_
                refine rw_lst hx hb hK hP hD hS 4 1 rfl rfl (j := (40 * Hg a + k)) (rfl) (by omega) (by decide) (ws' := wM ci ad 0 hd mk sz (vp_updL ce (40 * Hg a + k) y.toInt64) as np kd pu ++ F) rfl dX2_put_112 (fun H locs hP hD hS => ?_)
                refine lv_iconst (v := 0) hx hb dX2_put_113 (by decide) ?_
                exact W.iret (v := 0) hx hb hr (fun t ht _ => ⟨⟨_, (0, (vp_updL ce (40 * Hg a + k) y.toInt64)), rfl, Or.inr (Or.inr ⟨rfl, a, _, ha, ea, Or.inr ⟨p9, hp9, ep9⟩, rowIs_up (rowIs_rf _ _) (by omega) _, Or.inr (Or.inr (Or.inr ⟨h49, k, hk, ek, Or.inr ⟨by rw [ep9, nI_l (by omega)]; exact fun q => h87 ((tkm_iff hN hp9 (mV_pos hMK (hH a ha).1) h49).mpr q), rfl, rfl⟩⟩))⟩), by rw [ht]; exact hP, hD⟩, hS.F ht⟩) hS.2.2 dX2_put_114
              · skip
                refine lv_if_ne (tgt := 95) hx hb dX2_put_90 (by decide) (fun c90 => absurd c90 (by decide)) (fun c90 => ?_)
                refine lv_iconst (v := 2) hx hb dX2_put_93 (by decide) ?_
                exact W.iret (v := 2) hx hb hr (fun t ht _ => ⟨⟨_, (0, ce), rfl, Or.inr (Or.inr ⟨rfl, a, _, ha, ea, Or.inr ⟨p9, hp9, ep9⟩, rowIs_rf _ _, Or.inr (Or.inr (Or.inr ⟨h49, k, hk, ek, Or.inl ⟨by rw [ep9, nI_l (by omega)]; exact (tkm_iff hN hp9 (mV_pos hMK (hH a ha).1) h49).mp h87, rfl, rfl⟩⟩))⟩), by rw [ht]; exact hP, hD⟩, hS.F ht⟩) hS.2.2 dX2_put_94
          · skip
            refine lv_if_ne (tgt := 57) hx hb dX2_put_52 (by decide) (fun c52 => absurd c52 (by decide)) (fun c52 => ?_)
            refine lv_iconst (v := 2) hx hb dX2_put_55 (by decide) ?_
            exact W.iret (v := 2) hx hb hr (fun t ht _ => ⟨⟨_, (0, ce), rfl, Or.inr (Or.inr ⟨rfl, a, _, ha, ea, Or.inr ⟨p9, hp9, ep9⟩, rowIs_rf _ _, Or.inr (Or.inl ⟨c42, h49, rfl, rfl⟩)⟩), by rw [ht]; exact hP, hD⟩, hS.F ht⟩) hS.2.2 dX2_put_56
        · skip
          refine lv_iconst (v := 1) hx hb dX2_put_45 (by decide) ?_
          exact W.iret (v := 1) hx hb hr (fun t ht _ => ⟨⟨_, (0, ce), rfl, Or.inr (Or.inr ⟨rfl, a, _, ha, ea, Or.inr ⟨p9, hp9, ep9⟩, rowIs_rf _ _, Or.inl ⟨c42, rfl, rfl⟩⟩), by rw [ht]; exact hP, hD⟩, hS.F ht⟩) hS.2.2 dX2_put_46
set_option maxHeartbeats 4000000 in
set_option maxRecDepth 100000 in
theorem c_X2_note (l : Launch) (D : va_G) (ci : Nat → ClassId) (ad : Nat → Nat) (z : Nat) (F : va_W) (th : Int32) (hd : Nat → Int32) (mk : Nat → Int32) (sz : Nat → Int32) (ce : Nat → Int64) (as : Nat → Int64) (np : Nat) (kd : Nat → Int32) (pu : Nat → Int64) (Hg Z : Nat → Nat) (x i : Int32) (v : Int64) (hH : hOK hd Hg) (hZ : zOK sz Z) (hN : np ≤ 60) (hMK : ∀ t, t < 9 → ¬ mk t < 0) (hRO : ∀ h, h < 8 → mV mk (Hg h) ≤ 2 → ∀ q, q < sV mk Z (Hg h) → okV np (rV ce (Hg h) q)) : Met l yX2_note wsX2_note ({ frames := 2, cells := 0, slots := 0, locals := 42 }) (va_Pc [.ref (ad 30), .int x, .int i, .long v] (fun U => WD D ci ad z (wM ci ad th hd mk sz ce as np kd pu ++ F) U)) (va_Qi (fun (r : Int32) (u : Int32 × (Nat → Int64)) => (u.1 = 1 ∧ badH x ∧ u.2 = ce) ∨ (u.1 = 0 ∧ ∃ a f, a < 8 ∧ x = nI a ∧ rowIs ce (Hg a) f u.2 ∧ noteP (mV mk (Hg a)) (sV mk Z (Hg a)) (rV ce (Hg a)) i v r f)) (fun u t => va_P D vwCl (wM ci ad u.1 hd mk sz u.2 as np kd pu ++ F) t.heap ∧ va_D (LA z) (wM ci ad u.1 hd mk sz u.2 as np kd pu ++ F)) (LA z)) 0 0 (LA z) := by
  refine Met.ofW (cc := cX2_note) (maxL := 6) (ret := (some .int)) (by decide) rfl ?_
  intro p e s m args below meth c s₁ B hml hv
  obtain ⟨rfl, hP, hD, hK, hE⟩ := hv
  have hx := B.exec
  have hb := B.bytes
  have hr := B.returns
  have hts := atoms_spec (ws := wsX2_note) B.pre
  have hown : s.vm.findClass RX2 = some m.cls := findClass_of_methodNamed B.named
  have hlocks := B.notSynchronized
  have hS : va_S (LA z) s.heap s.heap [] := va_S.rf
  have hin2 : ∀ w ∈ wsX20, w ∈ wsX2_note := by decide +kernel
  have hl := lv_entry ([.ref (ad 30), .int x, .int i, .long v]) (n := 6) (Nat.le_of_ble_eq_true rfl)
  rw [lg_entry_eq]
  generalize (lg_sl ([.ref (ad 30), .int x, .int i, .long v]) ++ List.replicate (6 - (lg_sl ([.ref (ad 30), .int x, .int i, .long v])).length) Slot.unset).toArray = ls at hl ⊢
  have hl : lv_has ls 6 [(0, .ref (ad 30)), (1, .int x), (2, .int i), (3, .long v)] := hl
  refine lv_aload_n hx hb dX2_note_0 rfl (lv_at hl 0 rfl) ?_
  refine lv_iload_n hx hb dX2_note_1 rfl (lv_at hl 1 rfl) ?_
  refine vp_callSi (W.runS (As := [.int x]) (rest := [.ref (ad 30)]) ⟨hx, hb, hml, hown, hts⟩ (c_X2_noHook l x ) (va_cwS 1 hts gX2_note_X2_noHook rfl rfl rfl (by decide +kernel) ⟨Nat.le_of_ble_eq_true rfl, Nat.le_of_ble_eq_true rfl⟩) ⟨fb0, fun U hU hW => ⟨rfl, trivial⟩⟩ rfl rfl hl.1 rfl (lv_room (Nat.le_of_ble_eq_true rfl)) dX2_note_2 ⟨Nat.le_of_ble_eq_true rfl, Nat.le_of_ble_eq_true rfl⟩) (fun r2 hw2 => ?_)
  rcases hw2 with ⟨rfl, h2⟩ | ⟨rfl, h2⟩
  · skip
    refine lv_iconst (v := 0) hx hb dX2_note_5 (by decide) ?_
    refine va_calli (va_runV (As := [.int 1, .int 0]) (rest := []) ⟨hx, hb, hml, hown, hts⟩ (c_X2_fails l D ci ad z F th hd mk sz ce as np kd pu 1 0 ) (cwV 2 hts gX2_note_X2_fails rfl rfl rfl (by decide +kernel) ⟨Nat.le_of_ble_eq_true rfl, Nat.le_of_ble_eq_true rfl⟩) ⟨WD.fb, (va_recv hK hP (ci := 2) (q0 := 0) rfl rfl), fun U hU hW => ⟨rfl, WD.call hP hD hK hE hS hU hW⟩⟩ rfl rfl hl.1 rfl (lv_room (Nat.le_of_ble_eq_true rfl)) dX2_note_6 ⟨Nat.le_of_ble_eq_true rfl, Nat.le_of_ble_eq_true rfl⟩) hS (fun q _ h => h) (fun q h => h) (fun r6 u6 t6 H locs ht6 hvm6 hw6 hB6 hz6 hk6 hS => ?_)
    obtain ⟨hP, hD⟩ := hB6
    rw [ht6] at hP
    rcases hw6 with ⟨rfl, h6⟩ | ⟨rfl, h6⟩
    rotate_left
    · exact absurd h6.1 (by decide)
    have hu6 : u6 = 1 := u1 h6
    subst hu6
    refine lv_if_eq (tgt := 14) hx hb dX2_note_9 (by decide) (fun c9 => absurd c9 (by decide)) (fun c9 => ?_)
    refine lv_iconst (v := 0) hx hb dX2_note_12 (by decide) ?_
    exact W.iret (v := 0) hx hb hr (fun t ht _ => ⟨⟨_, (1, ce), rfl, Or.inl ⟨rfl, h2, rfl⟩, by rw [ht]; exact hP, hD⟩, hS.F ht⟩) hS.2.2 dX2_note_13
  · skip
    obtain ⟨a, ha, ea⟩ := h2
    refine lv_iconst (v := 0) hx hb dX2_note_5 (by decide) ?_
    refine va_calli (va_runV (As := [.int 0, .int 0]) (rest := []) ⟨hx, hb, hml, hown, hts⟩ (c_X2_fails l D ci ad z F th hd mk sz ce as np kd pu 0 0 ) (cwV 2 hts gX2_note_X2_fails rfl rfl rfl (by decide +kernel) ⟨Nat.le_of_ble_eq_true rfl, Nat.le_of_ble_eq_true rfl⟩) ⟨WD.fb, (va_recv hK hP (ci := 2) (q0 := 0) rfl rfl), fun U hU hW => ⟨rfl, WD.call hP hD hK hE hS hU hW⟩⟩ rfl rfl hl.1 rfl (lv_room (Nat.le_of_ble_eq_true rfl)) dX2_note_6 ⟨Nat.le_of_ble_eq_true rfl, Nat.le_of_ble_eq_true rfl⟩) hS (fun q _ h => h) (fun q h => h) (fun r6 u6 t6 H locs ht6 hvm6 hw6 hB6 hz6 hk6 hS => ?_)
    obtain ⟨hP, hD⟩ := hB6
    rw [ht6] at hP
    rcases hw6 with ⟨rfl, h6⟩ | ⟨rfl, h6⟩
    · exact absurd rfl (h6.elim (fun q => q.1) (fun q => q.2.1))
    have hu6 : u6 = 0 := h6.2.2
    subst hu6
    refine lv_if_eq (tgt := 14) hx hb dX2_note_9 (by decide) (fun c9 => ?_) (fun c9 => absurd c9 (by decide))
    refine lv_aload_n hx hb dX2_note_14 rfl (lv_at hl 0 rfl) ?_
    refine lv_iload_n hx hb dX2_note_15 rfl (lv_at hl 1 rfl) ?_
    refine vp_callSi (W.runV (As := [.int x]) (rest := []) ⟨hx, hb, hml, hown, hts⟩ (c_X2_makeOf l D ci ad z F 0 hd mk sz ce as np kd pu Hg Z x a hH hZ ha ea) (cwV 1 hts gX2_note_X2_makeOf rfl rfl rfl (by decide +kernel) ⟨Nat.le_of_ble_eq_true rfl, Nat.le_of_ble_eq_true rfl⟩) ⟨WD.fb, (va_recv hK hP (ci := 2) (q0 := 0) rfl rfl), fun U hU hW => ⟨rfl, WD.call hP hD hK hE hS hU hW⟩⟩ rfl rfl hl.1 rfl (lv_room (Nat.le_of_ble_eq_true rfl)) dX2_note_16 ⟨Nat.le_of_ble_eq_true rfl, Nat.le_of_ble_eq_true rfl⟩) (fun r16 hw16 => ?_)
    subst hw16
    refine lv_istore (lv' := [(5, .int (mV mk (Hg a))), (0, .ref (ad 30)), (1, .int x), (2, .int i), (3, .long v)]) hx hb dX2_note_19 hl (by decide) rfl (fun ls hl => ?_)
    refine lv_iload hx hb dX2_note_21 (lv_at hl 0 rfl) ?_
    refine lv_bipush (v := 6) hx hb dX2_note_23 (by decide) ?_
    refine lv_icmp_ne (tgt := 30) hx hb dX2_note_25 (by decide) (fun c25 => ?_) (fun c25 => ?_)
    · skip
      refine lv_iload hx hb dX2_note_30 (lv_at hl 0 rfl) ?_
      refine lv_iconst (v := 3) hx hb dX2_note_32 (by decide) ?_
      refine lv_icmp_eq (tgt := 44) hx hb dX2_note_33 (by decide) (fun c33 => ?_) (fun c33 => ?_)
      · skip
        have hm : mV mk (Hg a) = 3 ∨ mV mk (Hg a) = 4 := Or.inl c33
        refine lv_iload_n hx hb dX2_note_44 rfl (lv_at hl 3 rfl) ?_
        refine lv_iconst (v := 0) hx hb dX2_note_45 (by decide) ?_
        refine lv_aload_n hx hb dX2_note_46 rfl (lv_at hl 1 rfl) ?_
        refine lv_iload_n hx hb dX2_note_47 rfl (lv_at hl 2 rfl) ?_
        refine vp_callSi (W.runV (As := [.int x]) (rest := [.int 0, .int i]) ⟨hx, hb, hml, hown, hts⟩ (c_X2_sizeOf l D ci ad z F 0 hd mk sz ce as np kd pu Hg Z x a hH hZ ha ea) (cwV 1 hts gX2_note_X2_sizeOf rfl rfl rfl (by decide +kernel) ⟨Nat.le_of_ble_eq_true rfl, Nat.le_of_ble_eq_true rfl⟩) ⟨WD.fb, (va_recv hK hP (ci := 2) (q0 := 0) rfl rfl), fun U hU hW => ⟨rfl, WD.call hP hD hK hE hS hU hW⟩⟩ rfl rfl hl.1 rfl (lv_room (Nat.le_of_ble_eq_true rfl)) dX2_note_48 ⟨Nat.le_of_ble_eq_true rfl, Nat.le_of_ble_eq_true rfl⟩) (fun r48 hw48 => ?_)
        subst hw48
        refine lv_iconst (v := 1) hx hb dX2_note_51 (by decide) ?_
        refine lv_isub hx hb dX2_note_52 ?_
        have hS40 : sV mk Z (Hg a) ≤ 40 := sV_40 hZ (hH a ha).1
        refine vp_callSi (W.runS (As := [.int i, .int 0, .int ((nI (sV mk Z (Hg a))) - 1)]) (rest := []) ⟨hx, hb, hml, hown, hts⟩ (c_X2_outside l i 0 ((nI (sV mk Z (Hg a))) - 1) ) (va_cwS 3 hts gX2_note_X2_outside rfl rfl rfl (by decide +kernel) ⟨Nat.le_of_ble_eq_true rfl, Nat.le_of_ble_eq_true rfl⟩) ⟨fb0, fun U hU hW => ⟨rfl, trivial⟩⟩ rfl rfl hl.1 rfl (lv_room (Nat.le_of_ble_eq_true rfl)) dX2_note_53 ⟨Nat.le_of_ble_eq_true rfl, Nat.le_of_ble_eq_true rfl⟩) (fun r53 hw53 => ?_)
        rcases hw53 with ⟨rfl, h53⟩ | ⟨rfl, h53⟩
        · skip
          refine lv_if_eq (tgt := 61) hx hb dX2_note_56 (by decide) (fun c56 => absurd c56 (by decide)) (fun c56 => ?_)
          refine lv_iconst (v := 3) hx hb dX2_note_59 (by decide) ?_
          exact W.iret (v := 3) hx hb hr (fun t ht _ => ⟨⟨_, (0, ce), rfl, Or.inr ⟨rfl, a, _, ha, ea, rowIs_rf _ _, Or.inr (Or.inr (Or.inl ⟨hm, out_y (by omega) h53, rfl, rfl⟩))⟩, by rw [ht]; exact hP, hD⟩, hS.F ht⟩) hS.2.2 dX2_note_60
        · skip
          obtain ⟨k, hk, ek⟩ := out_n (by omega) h53
          have hta := hd_9 hH ha (mV_n34 hm)
          refine lv_if_eq (tgt := 61) hx hb dX2_note_56 (by decide) (fun c56 => ?_) (fun c56 => absurd c56 (by decide))
          refine lv_aload_n hx hb dX2_note_61 rfl (lv_at hl 1 rfl) ?_
          refine va_get (D := D) (ci := 2) (C := RX2) (T := TX2) (N := 9) hx hb hts hin2 hown hK hP 0 rfl rfl 4 (by decide) (hts (.fieldLink RX2 19 "DutyRotaModel" "cells" "[J") (by decide +kernel)) (fun _ h9 => h9) rfl dX2_note_62 ?_
          refine lv_bipush (v := 40) hx hb dX2_note_65 (by decide) ?_
          refine lv_aload_n hx hb dX2_note_67 rfl (lv_at hl 1 rfl) ?_
          refine va_get (D := D) (ci := 2) (C := RX2) (T := TX2) (N := 9) hx hb hts hin2 hown hK hP 0 rfl rfl 1 (by decide) (hts (.fieldLink RX2 9 "DutyRotaModel" "held" "[I") (by decide +kernel)) (fun _ h9 => h9) rfl dX2_note_68 ?_
          refine lv_iload_n hx hb dX2_note_71 rfl (lv_at hl 2 rfl) ?_
          refine rw_ild hx hb hK hP 1 0 rfl rfl (j := a) (ea) (ha) (by decide) dX2_note_72 ?_
          refine rw_topi (y := (nI (Hg a))) (hta.2) ?_
          refine lv_imul hx hb dX2_note_73 ?_
          refine rw_topi (y := (nI (40 * Hg a))) (ix40' _) ?_
          refine lv_iload_n hx hb dX2_note_74 rfl (lv_at hl 3 rfl) ?_
          refine lv_iadd hx hb dX2_note_75 ?_
          refine rw_topi (y := (nI (40 * Hg a + k))) (by rw [ek, nI_add]) ?_
          refine lv_iload hx hb dX2_note_76 (lv_at hl 0 rfl) ?_
          refine lv_iconst (v := 3) hx hb dX2_note_78 (by decide) ?_
          refine lv_icmp_ne (tgt := 88) hx hb dX2_note_79 (by decide) (fun c79 => ?_) (fun c79 => ?_)
          · skip
            refine lv_lload_n hx hb dX2_note_88 rfl (lv_at hl 4 rfl) ?_
            refine rw_topl (y := if mV mk (Hg a) = 3 then v.toInt32.toInt64 else v) ((if_neg c79).symm) ?_
            refine rw_lst hx hb hK hP hD hS 4 1 rfl rfl (j := (40 * Hg a + k)) (rfl) (by omega) (by decide) (ws' := wM ci ad 0 hd mk sz (vp_updL ce (40 * Hg a + k) (if mV mk (Hg a) = 3 then v.toInt32.toInt64 else v)) as np kd pu ++ F) rfl dX2_note_89 (fun H locs hP hD hS => ?_)
            refine lv_iconst (v := 0) hx hb dX2_note_90 (by decide) ?_
            exact W.iret (v := 0) hx hb hr (fun t ht _ => ⟨⟨_, (0, (vp_updL ce (40 * Hg a + k) (if mV mk (Hg a) = 3 then v.toInt32.toInt64 else v))), rfl, Or.inr ⟨rfl, a, _, ha, ea, rowIs_up (rowIs_rf _ _) (by omega) _, Or.inr (Or.inr (Or.inr ⟨hm, k, hk, ek, rfl, rfl⟩))⟩, by rw [ht]; exact hP, hD⟩, hS.F ht⟩) hS.2.2 dX2_note_91
          · skip
            refine lv_lload_n hx hb dX2_note_82 rfl (lv_at hl 4 rfl) ?_
            refine lv_l2i hx hb dX2_note_83 rfl ?_
            refine lv_i2l hx hb dX2_note_84 rfl ?_
            refine lv_goto (tgt := 89) hx hb dX2_note_85 (by decide) ?_
            refine rw_topl (y := if mV mk (Hg a) = 3 then v.toInt32.toInt64 else v) ((if_pos c79).symm) ?_
            refine rw_lst hx hb hK hP hD hS 4 1 rfl rfl (j := (40 * Hg a + k)) (rfl) (by omega) (by decide) (ws' := wM ci ad 0 hd mk sz (vp_updL ce (40 * Hg a + k) (if mV mk (Hg a) = 3 then v.toInt32.toInt64 else v)) as np kd pu ++ F) rfl dX2_note_89 (fun H locs hP hD hS => ?_)
            refine lv_iconst (v := 0) hx hb dX2_note_90 (by decide) ?_
            exact W.iret (v := 0) hx hb hr (fun t ht _ => ⟨⟨_, (0, (vp_updL ce (40 * Hg a + k) (if mV mk (Hg a) = 3 then v.toInt32.toInt64 else v))), rfl, Or.inr ⟨rfl, a, _, ha, ea, rowIs_up (rowIs_rf _ _) (by omega) _, Or.inr (Or.inr (Or.inr ⟨hm, k, hk, ek, rfl, rfl⟩))⟩, by rw [ht]; exact hP, hD⟩, hS.F ht⟩) hS.2.2 dX2_note_91
      · skip
        refine lv_iload hx hb dX2_note_36 (lv_at hl 0 rfl) ?_
        refine lv_iconst (v := 4) hx hb dX2_note_38 (by decide) ?_
        refine lv_icmp_eq (tgt := 44) hx hb dX2_note_39 (by decide) (fun c39 => ?_) (fun c39 => ?_)
        · skip
          have hm : mV mk (Hg a) = 3 ∨ mV mk (Hg a) = 4 := Or.inr c39
          refine lv_iload_n hx hb dX2_note_44 rfl (lv_at hl 3 rfl) ?_
          refine lv_iconst (v := 0) hx hb dX2_note_45 (by decide) ?_
          refine lv_aload_n hx hb dX2_note_46 rfl (lv_at hl 1 rfl) ?_
          refine lv_iload_n hx hb dX2_note_47 rfl (lv_at hl 2 rfl) ?_
          refine vp_callSi (W.runV (As := [.int x]) (rest := [.int 0, .int i]) ⟨hx, hb, hml, hown, hts⟩ (c_X2_sizeOf l D ci ad z F 0 hd mk sz ce as np kd pu Hg Z x a hH hZ ha ea) (cwV 1 hts gX2_note_X2_sizeOf rfl rfl rfl (by decide +kernel) ⟨Nat.le_of_ble_eq_true rfl, Nat.le_of_ble_eq_true rfl⟩) ⟨WD.fb, (va_recv hK hP (ci := 2) (q0 := 0) rfl rfl), fun U hU hW => ⟨rfl, WD.call hP hD hK hE hS hU hW⟩⟩ rfl rfl hl.1 rfl (lv_room (Nat.le_of_ble_eq_true rfl)) dX2_note_48 ⟨Nat.le_of_ble_eq_true rfl, Nat.le_of_ble_eq_true rfl⟩) (fun r48 hw48 => ?_)
          subst hw48
          refine lv_iconst (v := 1) hx hb dX2_note_51 (by decide) ?_
          refine lv_isub hx hb dX2_note_52 ?_
          have hS40 : sV mk Z (Hg a) ≤ 40 := sV_40 hZ (hH a ha).1
          refine vp_callSi (W.runS (As := [.int i, .int 0, .int ((nI (sV mk Z (Hg a))) - 1)]) (rest := []) ⟨hx, hb, hml, hown, hts⟩ (c_X2_outside l i 0 ((nI (sV mk Z (Hg a))) - 1) ) (va_cwS 3 hts gX2_note_X2_outside rfl rfl rfl (by decide +kernel) ⟨Nat.le_of_ble_eq_true rfl, Nat.le_of_ble_eq_true rfl⟩) ⟨fb0, fun U hU hW => ⟨rfl, trivial⟩⟩ rfl rfl hl.1 rfl (lv_room (Nat.le_of_ble_eq_true rfl)) dX2_note_53 ⟨Nat.le_of_ble_eq_true rfl, Nat.le_of_ble_eq_true rfl⟩) (fun r53 hw53 => ?_)
          rcases hw53 with ⟨rfl, h53⟩ | ⟨rfl, h53⟩
          · skip
            refine lv_if_eq (tgt := 61) hx hb dX2_note_56 (by decide) (fun c56 => absurd c56 (by decide)) (fun c56 => ?_)
            refine lv_iconst (v := 3) hx hb dX2_note_59 (by decide) ?_
            exact W.iret (v := 3) hx hb hr (fun t ht _ => ⟨⟨_, (0, ce), rfl, Or.inr ⟨rfl, a, _, ha, ea, rowIs_rf _ _, Or.inr (Or.inr (Or.inl ⟨hm, out_y (by omega) h53, rfl, rfl⟩))⟩, by rw [ht]; exact hP, hD⟩, hS.F ht⟩) hS.2.2 dX2_note_60
          · skip
            obtain ⟨k, hk, ek⟩ := out_n (by omega) h53
            have hta := hd_9 hH ha (mV_n34 hm)
            refine lv_if_eq (tgt := 61) hx hb dX2_note_56 (by decide) (fun c56 => ?_) (fun c56 => absurd c56 (by decide))
            refine lv_aload_n hx hb dX2_note_61 rfl (lv_at hl 1 rfl) ?_
            refine va_get (D := D) (ci := 2) (C := RX2) (T := TX2) (N := 9) hx hb hts hin2 hown hK hP 0 rfl rfl 4 (by decide) (hts (.fieldLink RX2 19 "DutyRotaModel" "cells" "[J") (by decide +kernel)) (fun _ h9 => h9) rfl dX2_note_62 ?_
            refine lv_bipush (v := 40) hx hb dX2_note_65 (by decide) ?_
            refine lv_aload_n hx hb dX2_note_67 rfl (lv_at hl 1 rfl) ?_
            refine va_get (D := D) (ci := 2) (C := RX2) (T := TX2) (N := 9) hx hb hts hin2 hown hK hP 0 rfl rfl 1 (by decide) (hts (.fieldLink RX2 9 "DutyRotaModel" "held" "[I") (by decide +kernel)) (fun _ h9 => h9) rfl dX2_note_68 ?_
            refine lv_iload_n hx hb dX2_note_71 rfl (lv_at hl 2 rfl) ?_
            refine rw_ild hx hb hK hP 1 0 rfl rfl (j := a) (ea) (ha) (by decide) dX2_note_72 ?_
            refine rw_topi (y := (nI (Hg a))) (hta.2) ?_
            refine lv_imul hx hb dX2_note_73 ?_
            refine rw_topi (y := (nI (40 * Hg a))) (ix40' _) ?_
            refine lv_iload_n hx hb dX2_note_74 rfl (lv_at hl 3 rfl) ?_
            refine lv_iadd hx hb dX2_note_75 ?_
            refine rw_topi (y := (nI (40 * Hg a + k))) (by rw [ek, nI_add]) ?_
            refine lv_iload hx hb dX2_note_76 (lv_at hl 0 rfl) ?_
            refine lv_iconst (v := 3) hx hb dX2_note_78 (by decide) ?_
            refine lv_icmp_ne (tgt := 88) hx hb dX2_note_79 (by decide) (fun c79 => ?_) (fun c79 => ?_)
            · skip
              refine lv_lload_n hx hb dX2_note_88 rfl (lv_at hl 4 rfl) ?_
              refine rw_topl (y := if mV mk (Hg a) = 3 then v.toInt32.toInt64 else v) ((if_neg c79).symm) ?_
              refine rw_lst hx hb hK hP hD hS 4 1 rfl rfl (j := (40 * Hg a + k)) (rfl) (by omega) (by decide) (ws' := wM ci ad 0 hd mk sz (vp_updL ce (40 * Hg a + k) (if mV mk (Hg a) = 3 then v.toInt32.toInt64 else v)) as np kd pu ++ F) rfl dX2_note_89 (fun H locs hP hD hS => ?_)
              refine lv_iconst (v := 0) hx hb dX2_note_90 (by decide) ?_
              exact W.iret (v := 0) hx hb hr (fun t ht _ => ⟨⟨_, (0, (vp_updL ce (40 * Hg a + k) (if mV mk (Hg a) = 3 then v.toInt32.toInt64 else v))), rfl, Or.inr ⟨rfl, a, _, ha, ea, rowIs_up (rowIs_rf _ _) (by omega) _, Or.inr (Or.inr (Or.inr ⟨hm, k, hk, ek, rfl, rfl⟩))⟩, by rw [ht]; exact hP, hD⟩, hS.F ht⟩) hS.2.2 dX2_note_91
            · skip
              refine lv_lload_n hx hb dX2_note_82 rfl (lv_at hl 4 rfl) ?_
              refine lv_l2i hx hb dX2_note_83 rfl ?_
              refine lv_i2l hx hb dX2_note_84 rfl ?_
              refine lv_goto (tgt := 89) hx hb dX2_note_85 (by decide) ?_
              refine rw_topl (y := if mV mk (Hg a) = 3 then v.toInt32.toInt64 else v) ((if_pos c79).symm) ?_
              refine rw_lst hx hb hK hP hD hS 4 1 rfl rfl (j := (40 * Hg a + k)) (rfl) (by omega) (by decide) (ws' := wM ci ad 0 hd mk sz (vp_updL ce (40 * Hg a + k) (if mV mk (Hg a) = 3 then v.toInt32.toInt64 else v)) as np kd pu ++ F) rfl dX2_note_89 (fun H locs hP hD hS => ?_)
              refine lv_iconst (v := 0) hx hb dX2_note_90 (by decide) ?_
              exact W.iret (v := 0) hx hb hr (fun t ht _ => ⟨⟨_, (0, (vp_updL ce (40 * Hg a + k) (if mV mk (Hg a) = 3 then v.toInt32.toInt64 else v))), rfl, Or.inr ⟨rfl, a, _, ha, ea, rowIs_up (rowIs_rf _ _) (by omega) _, Or.inr (Or.inr (Or.inr ⟨hm, k, hk, ek, rfl, rfl⟩))⟩, by rw [ht]; exact hP, hD⟩, hS.F ht⟩) hS.2.2 dX2_note_91
        · skip
          refine lv_iconst (v := 2) hx hb dX2_note_42 (by decide) ?_
          exact W.iret (v := 2) hx hb hr (fun t ht _ => ⟨⟨_, (0, ce), rfl, Or.inr ⟨rfl, a, _, ha, ea, rowIs_rf _ _, Or.inr (Or.inl ⟨c25, c33, c39, rfl, rfl⟩)⟩, by rw [ht]; exact hP, hD⟩, hS.F ht⟩) hS.2.2 dX2_note_43
    · skip
      refine lv_iconst (v := 1) hx hb dX2_note_28 (by decide) ?_
      exact W.iret (v := 1) hx hb hr (fun t ht _ => ⟨⟨_, (0, ce), rfl, Or.inr ⟨rfl, a, _, ha, ea, rowIs_rf _ _, Or.inl ⟨c25, rfl, rfl⟩⟩, by rw [ht]; exact hP, hD⟩, hS.F ht⟩) hS.2.2 dX2_note_29
set_option maxHeartbeats 4000000 in
set_option maxRecDepth 100000 in
theorem c_X2_copy (l : Launch) (D : va_G) (ci : Nat → ClassId) (ad : Nat → Nat) (z : Nat) (F : va_W) (th : Int32) (hd : Nat → Int32) (mk : Nat → Int32) (sz : Nat → Int32) (ce : Nat → Int64) (as : Nat → Int64) (np : Nat) (kd : Nat → Int32) (pu : Nat → Int64) (Hg Z : Nat → Nat) (x i y j k : Int32) (hH : hOK hd Hg) (hZ : zOK sz Z) (hN : np ≤ 60) (hMK : ∀ t, t < 9 → ¬ mk t < 0) (hRO : ∀ h, h < 8 → mV mk (Hg h) ≤ 2 → ∀ q, q < sV mk Z (Hg h) → okV np (rV ce (Hg h) q)) : Met l yX2_copy wsX2_copy ({ frames := 4, cells := 0, slots := 0, locals := 101 }) (va_Pc [.ref (ad 30), .int x, .int i, .int y, .int j, .int k] (fun U => WD D ci ad z (wM ci ad th hd mk sz ce as np kd pu ++ F) U)) (va_Qi (fun (r : Int32) (u : Int32 × (Nat → Int64) × (Nat → Int64)) => (u.1 = 1 ∧ (badH x ∨ badH y) ∧ u.2.1 = ce) ∨ (u.1 = 0 ∧ ∃ a b f, a < 8 ∧ b < 8 ∧ x = nI a ∧ y = nI b ∧ rowIs ce (Hg b) f u.2.1 ∧ cpV (mV mk (Hg a)) (mV mk (Hg b)) (sV mk Z (Hg a)) (sV mk Z (Hg b)) (rV ce (Hg a)) (rV ce (Hg b)) kd np i j k r f)) (fun u t => va_P D vwCl (wM ci ad u.1 hd mk sz u.2.1 u.2.2 np kd pu ++ F) t.heap ∧ va_D (LA z) (wM ci ad u.1 hd mk sz u.2.1 u.2.2 np kd pu ++ F)) (LA z)) 0 0 (LA z) := by
  refine Met.ofW (cc := cX2_copy) (maxL := 6) (ret := (some .int)) (by decide) rfl ?_
  intro p e s m args below meth c s₁ B hml hv
  obtain ⟨rfl, hP, hD, hK, hE⟩ := hv
  have hx := B.exec
  have hb := B.bytes
  have hr := B.returns
  have hts := atoms_spec (ws := wsX2_copy) B.pre
  have hown : s.vm.findClass RX2 = some m.cls := findClass_of_methodNamed B.named
  have hlocks := B.notSynchronized
  have hS : va_S (LA z) s.heap s.heap [] := va_S.rf
  have hl := lv_entry ([.ref (ad 30), .int x, .int i, .int y, .int j, .int k]) (n := 6) (Nat.le_of_ble_eq_true rfl)
  rw [lg_entry_eq]
  generalize (lg_sl ([.ref (ad 30), .int x, .int i, .int y, .int j, .int k]) ++ List.replicate (6 - (lg_sl ([.ref (ad 30), .int x, .int i, .int y, .int j, .int k])).length) Slot.unset).toArray = ls at hl ⊢
  have hl : lv_has ls 6 [(0, .ref (ad 30)), (1, .int x), (2, .int i), (3, .int y), (4, .int j), (5, .int k)] := hl
  refine lv_aload_n hx hb dX2_copy_0 rfl (lv_at hl 0 rfl) ?_
  refine lv_iload_n hx hb dX2_copy_1 rfl (lv_at hl 1 rfl) ?_
  refine vp_callSi (W.runS (As := [.int x]) (rest := [.ref (ad 30)]) ⟨hx, hb, hml, hown, hts⟩ (c_X2_noHook l x ) (va_cwS 1 hts gX2_copy_X2_noHook rfl rfl rfl (by decide +kernel) ⟨Nat.le_of_ble_eq_true rfl, Nat.le_of_ble_eq_true rfl⟩) ⟨fb0, fun U hU hW => ⟨rfl, trivial⟩⟩ rfl rfl hl.1 rfl (lv_room (Nat.le_of_ble_eq_true rfl)) dX2_copy_2 ⟨Nat.le_of_ble_eq_true rfl, Nat.le_of_ble_eq_true rfl⟩) (fun r2 hw2 => ?_)
  rcases hw2 with ⟨rfl, h2⟩ | ⟨rfl, h2⟩
  · skip
    refine lv_if_ne (tgt := 15) hx hb dX2_copy_5 (by decide) (fun c5 => ?_) (fun c5 => absurd c5 (by decide))
    refine lv_iconst (v := 1) hx hb dX2_copy_15 (by decide) ?_
    refine lv_goto (tgt := 20) hx hb dX2_copy_16 (by decide) ?_
    refine lv_iconst (v := 0) hx hb dX2_copy_20 (by decide) ?_
    refine va_calli (va_runV (As := [.int 1, .int 0]) (rest := []) ⟨hx, hb, hml, hown, hts⟩ (c_X2_fails l D ci ad z F th hd mk sz ce as np kd pu 1 0 ) (cwV 2 hts gX2_copy_X2_fails rfl rfl rfl (by decide +kernel) ⟨Nat.le_of_ble_eq_true rfl, Nat.le_of_ble_eq_true rfl⟩) ⟨WD.fb, (va_recv hK hP (ci := 2) (q0 := 0) rfl rfl), fun U hU hW => ⟨rfl, WD.call hP hD hK hE hS hU hW⟩⟩ rfl rfl hl.1 rfl (lv_room (Nat.le_of_ble_eq_true rfl)) dX2_copy_21 ⟨Nat.le_of_ble_eq_true rfl, Nat.le_of_ble_eq_true rfl⟩) hS (fun q _ h => h) (fun q h => h) (fun r21 u21 t21 H locs ht21 hvm21 hw21 hB21 hz21 hk21 hS => ?_)
    obtain ⟨hP, hD⟩ := hB21
    rw [ht21] at hP
    rcases hw21 with ⟨rfl, h21⟩ | ⟨rfl, h21⟩
    rotate_left
    · exact absurd h21.1 (by decide)
    have hu21 : u21 = 1 := u1 h21
    subst hu21
    refine lv_if_eq (tgt := 29) hx hb dX2_copy_24 (by decide) (fun c24 => absurd c24 (by decide)) (fun c24 => ?_)
    refine lv_iconst (v := 0) hx hb dX2_copy_27 (by decide) ?_
    exact W.iret (v := 0) hx hb hr (fun t ht _ => ⟨⟨_, (1, ce, as), rfl, Or.inl ⟨rfl, Or.inl h2, rfl⟩, by rw [ht]; exact hP, hD⟩, hS.F ht⟩) hS.2.2 dX2_copy_28
  · skip
    obtain ⟨a, ha, ea⟩ := h2
    refine lv_if_ne (tgt := 15) hx hb dX2_copy_5 (by decide) (fun c5 => absurd c5 (by decide)) (fun c5 => ?_)
    refine lv_iload_n hx hb dX2_copy_8 rfl (lv_at hl 3 rfl) ?_
    refine vp_callSi (W.runS (As := [.int y]) (rest := [.ref (ad 30)]) ⟨hx, hb, hml, hown, hts⟩ (c_X2_noHook l y ) (va_cwS 1 hts gX2_copy_X2_noHook rfl rfl rfl (by decide +kernel) ⟨Nat.le_of_ble_eq_true rfl, Nat.le_of_ble_eq_true rfl⟩) ⟨fb0, fun U hU hW => ⟨rfl, trivial⟩⟩ rfl rfl hl.1 rfl (lv_room (Nat.le_of_ble_eq_true rfl)) dX2_copy_9 ⟨Nat.le_of_ble_eq_true rfl, Nat.le_of_ble_eq_true rfl⟩) (fun r9 hw9 => ?_)
    rcases hw9 with ⟨rfl, h9⟩ | ⟨rfl, h9⟩
    · skip
      refine lv_if_eq (tgt := 19) hx hb dX2_copy_12 (by decide) (fun c12 => absurd c12 (by decide)) (fun c12 => ?_)
      refine lv_iconst (v := 1) hx hb dX2_copy_15 (by decide) ?_
      refine lv_goto (tgt := 20) hx hb dX2_copy_16 (by decide) ?_
      refine lv_iconst (v := 0) hx hb dX2_copy_20 (by decide) ?_
      refine va_calli (va_runV (As := [.int 1, .int 0]) (rest := []) ⟨hx, hb, hml, hown, hts⟩ (c_X2_fails l D ci ad z F th hd mk sz ce as np kd pu 1 0 ) (cwV 2 hts gX2_copy_X2_fails rfl rfl rfl (by decide +kernel) ⟨Nat.le_of_ble_eq_true rfl, Nat.le_of_ble_eq_true rfl⟩) ⟨WD.fb, (va_recv hK hP (ci := 2) (q0 := 0) rfl rfl), fun U hU hW => ⟨rfl, WD.call hP hD hK hE hS hU hW⟩⟩ rfl rfl hl.1 rfl (lv_room (Nat.le_of_ble_eq_true rfl)) dX2_copy_21 ⟨Nat.le_of_ble_eq_true rfl, Nat.le_of_ble_eq_true rfl⟩) hS (fun q _ h => h) (fun q h => h) (fun r21 u21 t21 H locs ht21 hvm21 hw21 hB21 hz21 hk21 hS => ?_)
      obtain ⟨hP, hD⟩ := hB21
      rw [ht21] at hP
      rcases hw21 with ⟨rfl, h21⟩ | ⟨rfl, h21⟩
      rotate_left
      · exact absurd h21.1 (by decide)
      have hu21 : u21 = 1 := u1 h21
      subst hu21
      refine lv_if_eq (tgt := 29) hx hb dX2_copy_24 (by decide) (fun c24 => absurd c24 (by decide)) (fun c24 => ?_)
      refine lv_iconst (v := 0) hx hb dX2_copy_27 (by decide) ?_
      exact W.iret (v := 0) hx hb hr (fun t ht _ => ⟨⟨_, (1, ce, as), rfl, Or.inl ⟨rfl, Or.inr h9, rfl⟩, by rw [ht]; exact hP, hD⟩, hS.F ht⟩) hS.2.2 dX2_copy_28
    · skip
      obtain ⟨b, hb8, eb⟩ := h9
      refine lv_if_eq (tgt := 19) hx hb dX2_copy_12 (by decide) (fun c12 => ?_) (fun c12 => absurd c12 (by decide))
      refine lv_iconst (v := 0) hx hb dX2_copy_19 (by decide) ?_
      refine lv_iconst (v := 0) hx hb dX2_copy_20 (by decide) ?_
      refine va_calli (va_runV (As := [.int 0, .int 0]) (rest := []) ⟨hx, hb, hml, hown, hts⟩ (c_X2_fails l D ci ad z F th hd mk sz ce as np kd pu 0 0 ) (cwV 2 hts gX2_copy_X2_fails rfl rfl rfl (by decide +kernel) ⟨Nat.le_of_ble_eq_true rfl, Nat.le_of_ble_eq_true rfl⟩) ⟨WD.fb, (va_recv hK hP (ci := 2) (q0 := 0) rfl rfl), fun U hU hW => ⟨rfl, WD.call hP hD hK hE hS hU hW⟩⟩ rfl rfl hl.1 rfl (lv_room (Nat.le_of_ble_eq_true rfl)) dX2_copy_21 ⟨Nat.le_of_ble_eq_true rfl, Nat.le_of_ble_eq_true rfl⟩) hS (fun q _ h => h) (fun q h => h) (fun r21 u21 t21 H locs ht21 hvm21 hw21 hB21 hz21 hk21 hS => ?_)
      obtain ⟨hP, hD⟩ := hB21
      rw [ht21] at hP
      rcases hw21 with ⟨rfl, h21⟩ | ⟨rfl, h21⟩
      · exact absurd rfl (h21.elim (fun q => q.1) (fun q => q.2.1))
      have hu21 : u21 = 0 := h21.2.2
      subst hu21
      refine lv_if_eq (tgt := 29) hx hb dX2_copy_24 (by decide) (fun c24 => ?_) (fun c24 => absurd c24 (by decide))
      refine lv_aload_n hx hb dX2_copy_29 rfl (lv_at hl 0 rfl) ?_
      refine lv_iload_n hx hb dX2_copy_30 rfl (lv_at hl 1 rfl) ?_
      refine lv_iload_n hx hb dX2_copy_31 rfl (lv_at hl 2 rfl) ?_
      refine lv_iload_n hx hb dX2_copy_32 rfl (lv_at hl 3 rfl) ?_
      refine lv_iload hx hb dX2_copy_33 (lv_at hl 4 rfl) ?_
      refine lv_iload hx hb dX2_copy_35 (lv_at hl 5 rfl) ?_
      refine va_calli (va_runV (As := [.int x, .int i, .int y, .int j, .int k]) (rest := []) ⟨hx, hb, hml, hown, hts⟩ (c_X2_copies l D ci ad z F 0 hd mk sz ce as np kd pu Hg Z x i y j k a b hH hZ ha ea hb8 eb hN hMK hRO) (cwV 5 hts gX2_copy_X2_copies rfl rfl rfl (by decide +kernel) ⟨Nat.le_of_ble_eq_true rfl, Nat.le_of_ble_eq_true rfl⟩) ⟨WD.fb, (va_recv hK hP (ci := 2) (q0 := 0) rfl rfl), fun U hU hW => ⟨rfl, WD.call hP hD hK hE hS hU hW⟩⟩ rfl rfl hl.1 rfl (lv_room (Nat.le_of_ble_eq_true rfl)) dX2_copy_37 ⟨Nat.le_of_ble_eq_true rfl, Nat.le_of_ble_eq_true rfl⟩) hS (fun q _ h => h) (fun q h => h) (fun r37 u37 t37 H locs ht37 hvm37 hw37 hB37 hz37 hk37 hS => ?_)
      obtain ⟨hP, hD⟩ := hB37
      rw [ht37] at hP
      obtain ⟨ce37, as37⟩ := u37
      try dsimp only at hw37 hP hD
      obtain ⟨f, hf1, hf2⟩ := hw37
      exact W.iret (v := r37) hx hb hr (fun t ht _ => ⟨⟨_, (0, ce37, as37), rfl, Or.inr ⟨rfl, a, b, f, ha, hb8, ea, eb, hf1, hf2⟩, by rw [ht]; exact hP, hD⟩, hS.F ht⟩) hS.2.2 dX2_copy_40
set_option maxHeartbeats 4000000 in
set_option maxRecDepth 100000 in
theorem c_X2_join (l : Launch) (D : va_G) (ci : Nat → ClassId) (ad : Nat → Nat) (z : Nat) (F : va_W) (th : Int32) (hd : Nat → Int32) (mk : Nat → Int32) (sz : Nat → Int32) (ce : Nat → Int64) (as : Nat → Int64) (np : Nat) (kd : Nat → Int32) (pu : Nat → Int64) (Hg Z : Nat → Nat) (x y t : Int32) (hH : hOK hd Hg) (hZ : zOK sz Z) (hN : np ≤ 60) (hMK : ∀ t, t < 9 → ¬ mk t < 0) (hRO : ∀ h, h < 8 → mV mk (Hg h) ≤ 2 → ∀ q, q < sV mk Z (Hg h) → okV np (rV ce (Hg h) q)) : Met l yX2_join wsX2_join ({ frames := 4, cells := 0, slots := 0, locals := 101 }) (va_Pc [.ref (ad 30), .int x, .int y, .int t] (fun U => WD D ci ad z (wM ci ad th hd mk sz ce as np kd pu ++ F) U)) (va_Qi (fun (r : Int32) (u : Int32 × (Nat → Int64) × (Nat → Int64)) => (u.1 = 1 ∧ (badH x ∨ badH y ∨ badH t) ∧ u.2.1 = ce) ∨ (u.1 = 0 ∧ ∃ a b d f1 r1 ce1, a < 8 ∧ b < 8 ∧ d < 8 ∧ x = nI a ∧ y = nI b ∧ t = nI d ∧ rowIs ce (Hg d) f1 ce1 ∧ cpV (mV mk (Hg a)) (mV mk (Hg d)) (sV mk Z (Hg a)) (sV mk Z (Hg d)) (rV ce (Hg a)) (rV ce (Hg d)) kd np 0 0 (nI (sV mk Z (Hg a))) r1 f1 ∧ ((¬ r1 = 0 ∧ r = r1 ∧ u.2.1 = ce1) ∨ (r1 = 0 ∧ ∃ f2, rowIs ce1 (Hg d) f2 u.2.1 ∧ cpV (mV mk (Hg b)) (mV mk (Hg d)) (sV mk Z (Hg b)) (sV mk Z (Hg d)) (rV ce1 (Hg b)) (rV ce1 (Hg d)) kd np 0 (nI (sV mk Z (Hg a))) (nI (sV mk Z (Hg b))) r f2)))) (fun u t => va_P D vwCl (wM ci ad u.1 hd mk sz u.2.1 u.2.2 np kd pu ++ F) t.heap ∧ va_D (LA z) (wM ci ad u.1 hd mk sz u.2.1 u.2.2 np kd pu ++ F)) (LA z)) 0 0 (LA z) := by
  refine Met.ofW (cc := cX2_join) (maxL := 6) (ret := (some .int)) (by decide) rfl ?_
  intro p e s m args below meth c s₁ B hml hv
  obtain ⟨rfl, hP, hD, hK, hE⟩ := hv
  have hx := B.exec
  have hb := B.bytes
  have hr := B.returns
  have hts := atoms_spec (ws := wsX2_join) B.pre
  have hown : s.vm.findClass RX2 = some m.cls := findClass_of_methodNamed B.named
  have hlocks := B.notSynchronized
  have hS : va_S (LA z) s.heap s.heap [] := va_S.rf
  have hl := lv_entry ([.ref (ad 30), .int x, .int y, .int t]) (n := 6) (Nat.le_of_ble_eq_true rfl)
  rw [lg_entry_eq]
  generalize (lg_sl ([.ref (ad 30), .int x, .int y, .int t]) ++ List.replicate (6 - (lg_sl ([.ref (ad 30), .int x, .int y, .int t])).length) Slot.unset).toArray = ls at hl ⊢
  have hl : lv_has ls 6 [(0, .ref (ad 30)), (1, .int x), (2, .int y), (3, .int t)] := hl
  refine lv_aload_n hx hb dX2_join_0 rfl (lv_at hl 0 rfl) ?_
  refine lv_iload_n hx hb dX2_join_1 rfl (lv_at hl 1 rfl) ?_
  refine vp_callSi (W.runS (As := [.int x]) (rest := [.ref (ad 30)]) ⟨hx, hb, hml, hown, hts⟩ (c_X2_noHook l x ) (va_cwS 1 hts gX2_join_X2_noHook rfl rfl rfl (by decide +kernel) ⟨Nat.le_of_ble_eq_true rfl, Nat.le_of_ble_eq_true rfl⟩) ⟨fb0, fun U hU hW => ⟨rfl, trivial⟩⟩ rfl rfl hl.1 rfl (lv_room (Nat.le_of_ble_eq_true rfl)) dX2_join_2 ⟨Nat.le_of_ble_eq_true rfl, Nat.le_of_ble_eq_true rfl⟩) (fun r2 hw2 => ?_)
  rcases hw2 with ⟨rfl, h2⟩ | ⟨rfl, h2⟩
  · skip
    refine lv_if_ne (tgt := 22) hx hb dX2_join_5 (by decide) (fun c5 => ?_) (fun c5 => absurd c5 (by decide))
    refine lv_iconst (v := 1) hx hb dX2_join_22 (by decide) ?_
    refine lv_goto (tgt := 27) hx hb dX2_join_23 (by decide) ?_
    refine lv_iconst (v := 0) hx hb dX2_join_27 (by decide) ?_
    refine va_calli (va_runV (As := [.int 1, .int 0]) (rest := []) ⟨hx, hb, hml, hown, hts⟩ (c_X2_fails l D ci ad z F th hd mk sz ce as np kd pu 1 0 ) (cwV 2 hts gX2_join_X2_fails rfl rfl rfl (by decide +kernel) ⟨Nat.le_of_ble_eq_true rfl, Nat.le_of_ble_eq_true rfl⟩) ⟨WD.fb, (va_recv hK hP (ci := 2) (q0 := 0) rfl rfl), fun U hU hW => ⟨rfl, WD.call hP hD hK hE hS hU hW⟩⟩ rfl rfl hl.1 rfl (lv_room (Nat.le_of_ble_eq_true rfl)) dX2_join_28 ⟨Nat.le_of_ble_eq_true rfl, Nat.le_of_ble_eq_true rfl⟩) hS (fun q _ h => h) (fun q h => h) (fun r28 u28 t28 H locs ht28 hvm28 hw28 hB28 hz28 hk28 hS => ?_)
    obtain ⟨hP, hD⟩ := hB28
    rw [ht28] at hP
    rcases hw28 with ⟨rfl, h28⟩ | ⟨rfl, h28⟩
    rotate_left
    · exact absurd h28.1 (by decide)
    have hu28 : u28 = 1 := u1 h28
    subst hu28
    refine lv_if_eq (tgt := 36) hx hb dX2_join_31 (by decide) (fun c31 => absurd c31 (by decide)) (fun c31 => ?_)
    refine lv_iconst (v := 0) hx hb dX2_join_34 (by decide) ?_
    exact W.iret (v := 0) hx hb hr (fun t ht _ => ⟨⟨_, (1, ce, as), rfl, Or.inl ⟨rfl, Or.inl h2, rfl⟩, by rw [ht]; exact hP, hD⟩, hS.F ht⟩) hS.2.2 dX2_join_35
  · skip
    obtain ⟨a, ha, ea⟩ := h2
    refine lv_if_ne (tgt := 22) hx hb dX2_join_5 (by decide) (fun c5 => absurd c5 (by decide)) (fun c5 => ?_)
    refine lv_iload_n hx hb dX2_join_8 rfl (lv_at hl 2 rfl) ?_
    refine vp_callSi (W.runS (As := [.int y]) (rest := [.ref (ad 30)]) ⟨hx, hb, hml, hown, hts⟩ (c_X2_noHook l y ) (va_cwS 1 hts gX2_join_X2_noHook rfl rfl rfl (by decide +kernel) ⟨Nat.le_of_ble_eq_true rfl, Nat.le_of_ble_eq_true rfl⟩) ⟨fb0, fun U hU hW => ⟨rfl, trivial⟩⟩ rfl rfl hl.1 rfl (lv_room (Nat.le_of_ble_eq_true rfl)) dX2_join_9 ⟨Nat.le_of_ble_eq_true rfl, Nat.le_of_ble_eq_true rfl⟩) (fun r9 hw9 => ?_)
    rcases hw9 with ⟨rfl, h9⟩ | ⟨rfl, h9⟩
    · skip
      refine lv_if_ne (tgt := 22) hx hb dX2_join_12 (by decide) (fun c12 => ?_) (fun c12 => absurd c12 (by decide))
      refine lv_iconst (v := 1) hx hb dX2_join_22 (by decide) ?_
      refine lv_goto (tgt := 27) hx hb dX2_join_23 (by decide) ?_
      refine lv_iconst (v := 0) hx hb dX2_join_27 (by decide) ?_
      refine va_calli (va_runV (As := [.int 1, .int 0]) (rest := []) ⟨hx, hb, hml, hown, hts⟩ (c_X2_fails l D ci ad z F th hd mk sz ce as np kd pu 1 0 ) (cwV 2 hts gX2_join_X2_fails rfl rfl rfl (by decide +kernel) ⟨Nat.le_of_ble_eq_true rfl, Nat.le_of_ble_eq_true rfl⟩) ⟨WD.fb, (va_recv hK hP (ci := 2) (q0 := 0) rfl rfl), fun U hU hW => ⟨rfl, WD.call hP hD hK hE hS hU hW⟩⟩ rfl rfl hl.1 rfl (lv_room (Nat.le_of_ble_eq_true rfl)) dX2_join_28 ⟨Nat.le_of_ble_eq_true rfl, Nat.le_of_ble_eq_true rfl⟩) hS (fun q _ h => h) (fun q h => h) (fun r28 u28 t28 H locs ht28 hvm28 hw28 hB28 hz28 hk28 hS => ?_)
      obtain ⟨hP, hD⟩ := hB28
      rw [ht28] at hP
      rcases hw28 with ⟨rfl, h28⟩ | ⟨rfl, h28⟩
      rotate_left
      · exact absurd h28.1 (by decide)
      have hu28 : u28 = 1 := u1 h28
      subst hu28
      refine lv_if_eq (tgt := 36) hx hb dX2_join_31 (by decide) (fun c31 => absurd c31 (by decide)) (fun c31 => ?_)
      refine lv_iconst (v := 0) hx hb dX2_join_34 (by decide) ?_
      exact W.iret (v := 0) hx hb hr (fun t ht _ => ⟨⟨_, (1, ce, as), rfl, Or.inl ⟨rfl, Or.inr (Or.inl h9), rfl⟩, by rw [ht]; exact hP, hD⟩, hS.F ht⟩) hS.2.2 dX2_join_35
    · skip
      obtain ⟨b, hb8, eb⟩ := h9
      refine lv_if_ne (tgt := 22) hx hb dX2_join_12 (by decide) (fun c12 => absurd c12 (by decide)) (fun c12 => ?_)
      refine lv_iload_n hx hb dX2_join_15 rfl (lv_at hl 3 rfl) ?_
      refine vp_callSi (W.runS (As := [.int t]) (rest := [.ref (ad 30)]) ⟨hx, hb, hml, hown, hts⟩ (c_X2_noHook l t ) (va_cwS 1 hts gX2_join_X2_noHook rfl rfl rfl (by decide +kernel) ⟨Nat.le_of_ble_eq_true rfl, Nat.le_of_ble_eq_true rfl⟩) ⟨fb0, fun U hU hW => ⟨rfl, trivial⟩⟩ rfl rfl hl.1 rfl (lv_room (Nat.le_of_ble_eq_true rfl)) dX2_join_16 ⟨Nat.le_of_ble_eq_true rfl, Nat.le_of_ble_eq_true rfl⟩) (fun r16 hw16 => ?_)
      rcases hw16 with ⟨rfl, h16⟩ | ⟨rfl, h16⟩
      · skip
        refine lv_if_eq (tgt := 26) hx hb dX2_join_19 (by decide) (fun c19 => absurd c19 (by decide)) (fun c19 => ?_)
        refine lv_iconst (v := 1) hx hb dX2_join_22 (by decide) ?_
        refine lv_goto (tgt := 27) hx hb dX2_join_23 (by decide) ?_
        refine lv_iconst (v := 0) hx hb dX2_join_27 (by decide) ?_
        refine va_calli (va_runV (As := [.int 1, .int 0]) (rest := []) ⟨hx, hb, hml, hown, hts⟩ (c_X2_fails l D ci ad z F th hd mk sz ce as np kd pu 1 0 ) (cwV 2 hts gX2_join_X2_fails rfl rfl rfl (by decide +kernel) ⟨Nat.le_of_ble_eq_true rfl, Nat.le_of_ble_eq_true rfl⟩) ⟨WD.fb, (va_recv hK hP (ci := 2) (q0 := 0) rfl rfl), fun U hU hW => ⟨rfl, WD.call hP hD hK hE hS hU hW⟩⟩ rfl rfl hl.1 rfl (lv_room (Nat.le_of_ble_eq_true rfl)) dX2_join_28 ⟨Nat.le_of_ble_eq_true rfl, Nat.le_of_ble_eq_true rfl⟩) hS (fun q _ h => h) (fun q h => h) (fun r28 u28 t28 H locs ht28 hvm28 hw28 hB28 hz28 hk28 hS => ?_)
        obtain ⟨hP, hD⟩ := hB28
        rw [ht28] at hP
        rcases hw28 with ⟨rfl, h28⟩ | ⟨rfl, h28⟩
        rotate_left
        · exact absurd h28.1 (by decide)
        have hu28 : u28 = 1 := u1 h28
        subst hu28
        refine lv_if_eq (tgt := 36) hx hb dX2_join_31 (by decide) (fun c31 => absurd c31 (by decide)) (fun c31 => ?_)
        refine lv_iconst (v := 0) hx hb dX2_join_34 (by decide) ?_
        exact W.iret (v := 0) hx hb hr (fun t ht _ => ⟨⟨_, (1, ce, as), rfl, Or.inl ⟨rfl, Or.inr (Or.inr h16), rfl⟩, by rw [ht]; exact hP, hD⟩, hS.F ht⟩) hS.2.2 dX2_join_35
      · skip
        obtain ⟨d, hd8, ed⟩ := h16
        refine lv_if_eq (tgt := 26) hx hb dX2_join_19 (by decide) (fun c19 => ?_) (fun c19 => absurd c19 (by decide))
        refine lv_iconst (v := 0) hx hb dX2_join_26 (by decide) ?_
        refine lv_iconst (v := 0) hx hb dX2_join_27 (by decide) ?_
        refine va_calli (va_runV (As := [.int 0, .int 0]) (rest := []) ⟨hx, hb, hml, hown, hts⟩ (c_X2_fails l D ci ad z F th hd mk sz ce as np kd pu 0 0 ) (cwV 2 hts gX2_join_X2_fails rfl rfl rfl (by decide +kernel) ⟨Nat.le_of_ble_eq_true rfl, Nat.le_of_ble_eq_true rfl⟩) ⟨WD.fb, (va_recv hK hP (ci := 2) (q0 := 0) rfl rfl), fun U hU hW => ⟨rfl, WD.call hP hD hK hE hS hU hW⟩⟩ rfl rfl hl.1 rfl (lv_room (Nat.le_of_ble_eq_true rfl)) dX2_join_28 ⟨Nat.le_of_ble_eq_true rfl, Nat.le_of_ble_eq_true rfl⟩) hS (fun q _ h => h) (fun q h => h) (fun r28 u28 t28 H locs ht28 hvm28 hw28 hB28 hz28 hk28 hS => ?_)
        obtain ⟨hP, hD⟩ := hB28
        rw [ht28] at hP
        rcases hw28 with ⟨rfl, h28⟩ | ⟨rfl, h28⟩
        · exact absurd rfl (h28.elim (fun q => q.1) (fun q => q.2.1))
        have hu28 : u28 = 0 := h28.2.2
        subst hu28
        refine lv_if_eq (tgt := 36) hx hb dX2_join_31 (by decide) (fun c31 => ?_) (fun c31 => absurd c31 (by decide))
        refine lv_aload_n hx hb dX2_join_36 rfl (lv_at hl 0 rfl) ?_
        refine lv_iload_n hx hb dX2_join_37 rfl (lv_at hl 1 rfl) ?_
        refine vp_callSi (W.runV (As := [.int x]) (rest := []) ⟨hx, hb, hml, hown, hts⟩ (c_X2_sizeOf l D ci ad z F 0 hd mk sz ce as np kd pu Hg Z x a hH hZ ha ea) (cwV 1 hts gX2_join_X2_sizeOf rfl rfl rfl (by decide +kernel) ⟨Nat.le_of_ble_eq_true rfl, Nat.le_of_ble_eq_true rfl⟩) ⟨WD.fb, (va_recv hK hP (ci := 2) (q0 := 0) rfl rfl), fun U hU hW => ⟨rfl, WD.call hP hD hK hE hS hU hW⟩⟩ rfl rfl hl.1 rfl (lv_room (Nat.le_of_ble_eq_true rfl)) dX2_join_38 ⟨Nat.le_of_ble_eq_true rfl, Nat.le_of_ble_eq_true rfl⟩) (fun r38 hw38 => ?_)
        subst hw38
        refine lv_istore (lv' := [(4, .int (nI (sV mk Z (Hg a)))), (0, .ref (ad 30)), (1, .int x), (2, .int y), (3, .int t)]) hx hb dX2_join_41 hl (by decide) rfl (fun ls hl => ?_)
        refine lv_aload_n hx hb dX2_join_43 rfl (lv_at hl 1 rfl) ?_
        refine lv_iload_n hx hb dX2_join_44 rfl (lv_at hl 2 rfl) ?_
        refine lv_iconst (v := 0) hx hb dX2_join_45 (by decide) ?_
        refine lv_iload_n hx hb dX2_join_46 rfl (lv_at hl 4 rfl) ?_
        refine lv_iconst (v := 0) hx hb dX2_join_47 (by decide) ?_
        refine lv_iload hx hb dX2_join_48 (lv_at hl 0 rfl) ?_
        refine va_calli (va_runV (As := [.int x, .int 0, .int t, .int 0, .int (nI (sV mk Z (Hg a)))]) (rest := []) ⟨hx, hb, hml, hown, hts⟩ (c_X2_copies l D ci ad z F 0 hd mk sz ce as np kd pu Hg Z x 0 t 0 (nI (sV mk Z (Hg a))) a d hH hZ ha ea hd8 ed hN hMK hRO) (cwV 5 hts gX2_join_X2_copies rfl rfl rfl (by decide +kernel) ⟨Nat.le_of_ble_eq_true rfl, Nat.le_of_ble_eq_true rfl⟩) ⟨WD.fb, (va_recv hK hP (ci := 2) (q0 := 0) rfl rfl), fun U hU hW => ⟨rfl, WD.call hP hD hK hE hS hU hW⟩⟩ rfl rfl hl.1 rfl (lv_room (Nat.le_of_ble_eq_true rfl)) dX2_join_50 ⟨Nat.le_of_ble_eq_true rfl, Nat.le_of_ble_eq_true rfl⟩) hS (fun q _ h => h) (fun q h => h) (fun r50 u50 t50 H locs ht50 hvm50 hw50 hB50 hz50 hk50 hS => ?_)
        obtain ⟨hP, hD⟩ := hB50
        rw [ht50] at hP
        obtain ⟨ce50, as50⟩ := u50
        try dsimp only at hw50 hP hD
        obtain ⟨f1, hf1, hf2⟩ := hw50
        have hS8 : ∀ h, h < 8 → sV mk Z (Hg h) ≤ 40 := fun h hh => sV_40 hZ (hH h hh).1
        have hRO1 := ro_set hS8 hRO hf1 (cp_ok hf2 (hRO a ha) (hRO d hd8))
        refine lv_istore (lv' := [(5, .int r50), (4, .int (nI (sV mk Z (Hg a)))), (0, .ref (ad 30)), (1, .int x), (2, .int y), (3, .int t)]) hx hb dX2_join_53 hl (by decide) rfl (fun ls hl => ?_)
        refine lv_iload hx hb dX2_join_55 (lv_at hl 0 rfl) ?_
        refine lv_if_eq (tgt := 65) hx hb dX2_join_57 (by decide) (fun c57 => ?_) (fun c57 => ?_)
        · skip
          refine lv_aload_n hx hb dX2_join_65 rfl (lv_at hl 2 rfl) ?_
          refine lv_iload_n hx hb dX2_join_66 rfl (lv_at hl 4 rfl) ?_
          refine lv_iconst (v := 0) hx hb dX2_join_67 (by decide) ?_
          refine lv_iload_n hx hb dX2_join_68 rfl (lv_at hl 5 rfl) ?_
          refine lv_iload hx hb dX2_join_69 (lv_at hl 1 rfl) ?_
          refine lv_aload_n hx hb dX2_join_71 rfl (lv_at hl 2 rfl) ?_
          refine lv_iload_n hx hb dX2_join_72 rfl (lv_at hl 4 rfl) ?_
          refine vp_callSi (W.runV (As := [.int y]) (rest := [.int (nI (sV mk Z (Hg a))), .int t, .int 0, .int y, .ref (ad 30)]) ⟨hx, hb, hml, hown, hts⟩ (c_X2_sizeOf l D ci ad z F 0 hd mk sz ce50 as50 np kd pu Hg Z y b hH hZ hb8 eb) (cwV 1 hts gX2_join_X2_sizeOf rfl rfl rfl (by decide +kernel) ⟨Nat.le_of_ble_eq_true rfl, Nat.le_of_ble_eq_true rfl⟩) ⟨WD.fb, (va_recv hK hP (ci := 2) (q0 := 0) rfl rfl), fun U hU hW => ⟨rfl, WD.call hP hD hK hE hS hU hW⟩⟩ rfl rfl hl.1 rfl (lv_room (Nat.le_of_ble_eq_true rfl)) dX2_join_73 ⟨Nat.le_of_ble_eq_true rfl, Nat.le_of_ble_eq_true rfl⟩) (fun r73 hw73 => ?_)
          subst hw73
          refine va_calli (va_runV (As := [.int y, .int 0, .int t, .int (nI (sV mk Z (Hg a))), .int (nI (sV mk Z (Hg b)))]) (rest := []) ⟨hx, hb, hml, hown, hts⟩ (c_X2_copies l D ci ad z F 0 hd mk sz ce50 as50 np kd pu Hg Z y 0 t (nI (sV mk Z (Hg a))) (nI (sV mk Z (Hg b))) b d hH hZ hb8 eb hd8 ed hN hMK hRO1) (cwV 5 hts gX2_join_X2_copies rfl rfl rfl (by decide +kernel) ⟨Nat.le_of_ble_eq_true rfl, Nat.le_of_ble_eq_true rfl⟩) ⟨WD.fb, (va_recv hK hP (ci := 2) (q0 := 0) rfl rfl), fun U hU hW => ⟨rfl, WD.call hP hD hK hE hS hU hW⟩⟩ rfl rfl hl.1 rfl (lv_room (Nat.le_of_ble_eq_true rfl)) dX2_join_76 ⟨Nat.le_of_ble_eq_true rfl, Nat.le_of_ble_eq_true rfl⟩) hS (fun q _ h => h) (fun q h => h) (fun r76 u76 t76 H locs ht76 hvm76 hw76 hB76 hz76 hk76 hS => ?_)
          obtain ⟨hP, hD⟩ := hB76
          rw [ht76] at hP
          obtain ⟨ce76, as76⟩ := u76
          try dsimp only at hw76 hP hD
          obtain ⟨f2, hg1, hg2⟩ := hw76
          exact W.iret (v := r76) hx hb hr (fun t ht _ => ⟨⟨_, (0, ce76, as76), rfl, Or.inr ⟨rfl, a, b, d, f1, r50, _, ha, hb8, hd8, ea, eb, ed, hf1, hf2, Or.inr ⟨c57, f2, hg1, hg2⟩⟩, by rw [ht]; exact hP, hD⟩, hS.F ht⟩) hS.2.2 dX2_join_79
        · skip
          refine lv_iload hx hb dX2_join_60 (lv_at hl 0 rfl) ?_
          refine lv_goto (tgt := 79) hx hb dX2_join_62 (by decide) ?_
          exact W.iret (v := r50) hx hb hr (fun t ht _ => ⟨⟨_, (0, ce50, as50), rfl, Or.inr ⟨rfl, a, b, d, f1, r50, _, ha, hb8, hd8, ea, eb, ed, hf1, hf2, Or.inl ⟨c57, rfl, rfl⟩⟩, by rw [ht]; exact hP, hD⟩, hS.F ht⟩) hS.2.2 dX2_join_79
set_option maxHeartbeats 4000000 in
set_option maxRecDepth 100000 in
theorem c_X2_at (l : Launch) (D : va_G) (ci : Nat → ClassId) (ad : Nat → Nat) (z : Nat) (F : va_W) (th : Int32) (hd : Nat → Int32) (mk : Nat → Int32) (sz : Nat → Int32) (ce : Nat → Int64) (as : Nat → Int64) (np : Nat) (kd : Nat → Int32) (pu : Nat → Int64) (Hg Z : Nat → Nat) (x i : Int32) (hH : hOK hd Hg) (hZ : zOK sz Z) (hN : np ≤ 60) (hMK : ∀ t, t < 9 → ¬ mk t < 0) (hRO : ∀ h, h < 8 → mV mk (Hg h) ≤ 2 → ∀ q, q < sV mk Z (Hg h) → okV np (rV ce (Hg h) q)) : Met l yX2_at wsX2_at ({ frames := 2, cells := 0, slots := 0, locals := 42 }) (va_Pc [.ref (ad 30), .int x, .int i] (fun U => WD D ci ad z (wM ci ad th hd mk sz ce as np kd pu ++ F) U)) (va_Ql (fun (r : Int64) (u : Int32) => (u = 1 ∧ badH x) ∨ (u = 2 ∧ ∃ a, a < 8 ∧ x = nI a ∧ (¬ mV mk (Hg a) ≤ 4 ∨ i < 0 ∨ nI (sV mk Z (Hg a)) ≤ i)) ∨ (u = 0 ∧ ∃ a k, a < 8 ∧ x = nI a ∧ mV mk (Hg a) ≤ 4 ∧ k < sV mk Z (Hg a) ∧ i = nI k ∧ r = rV ce (Hg a) k)) (fun u t => va_P D vwCl (wM ci ad u hd mk sz ce as np kd pu ++ F) t.heap ∧ va_D (LA z) (wM ci ad u hd mk sz ce as np kd pu ++ F)) (LA z)) 0 0 (LA z) := by
  refine Met.ofW (cc := cX2_at) (maxL := 4) (ret := (some .long)) (by decide) rfl ?_
  intro p e s m args below meth c s₁ B hml hv
  obtain ⟨rfl, hP, hD, hK, hE⟩ := hv
  have hx := B.exec
  have hb := B.bytes
  have hr := B.returns
  have hts := atoms_spec (ws := wsX2_at) B.pre
  have hown : s.vm.findClass RX2 = some m.cls := findClass_of_methodNamed B.named
  have hlocks := B.notSynchronized
  have hS : va_S (LA z) s.heap s.heap [] := va_S.rf
  have hin2 : ∀ w ∈ wsX20, w ∈ wsX2_at := by decide +kernel
  have hl := lv_entry ([.ref (ad 30), .int x, .int i]) (n := 4) (Nat.le_of_ble_eq_true rfl)
  rw [lg_entry_eq]
  generalize (lg_sl ([.ref (ad 30), .int x, .int i]) ++ List.replicate (4 - (lg_sl ([.ref (ad 30), .int x, .int i])).length) Slot.unset).toArray = ls at hl ⊢
  have hl : lv_has ls 4 [(0, .ref (ad 30)), (1, .int x), (2, .int i)] := hl
  refine lv_iload_n hx hb dX2_at_0 rfl (lv_at hl 1 rfl) ?_
  refine vp_callSi (W.runS (As := [.int x]) (rest := []) ⟨hx, hb, hml, hown, hts⟩ (c_X2_noHook l x ) (va_cwS 1 hts gX2_at_X2_noHook rfl rfl rfl (by decide +kernel) ⟨Nat.le_of_ble_eq_true rfl, Nat.le_of_ble_eq_true rfl⟩) ⟨fb0, fun U hU hW => ⟨rfl, trivial⟩⟩ rfl rfl hl.1 rfl (lv_room (Nat.le_of_ble_eq_true rfl)) dX2_at_1 ⟨Nat.le_of_ble_eq_true rfl, Nat.le_of_ble_eq_true rfl⟩) (fun r1 hw1 => ?_)
  rcases hw1 with ⟨rfl, h1⟩ | ⟨rfl, h1⟩
  · skip
    refine lv_istore_n (lv' := [(3, .int 1), (0, .ref (ad 30)), (1, .int x), (2, .int i)]) hx hb dX2_at_4 rfl hl (by decide) rfl (fun ls hl => ?_)
    refine lv_aload_n hx hb dX2_at_5 rfl (lv_at hl 1 rfl) ?_
    refine lv_iload_n hx hb dX2_at_6 rfl (lv_at hl 0 rfl) ?_
    refine lv_iload_n hx hb dX2_at_7 rfl (lv_at hl 0 rfl) ?_
    refine lv_if_ne (tgt := 41) hx hb dX2_at_8 (by decide) (fun c8 => ?_) (fun c8 => absurd c8 (by decide))
    refine lv_iconst (v := 0) hx hb dX2_at_41 (by decide) ?_
    refine va_calli (va_runV (As := [.int 1, .int 0]) (rest := []) ⟨hx, hb, hml, hown, hts⟩ (c_X2_fails l D ci ad z F th hd mk sz ce as np kd pu 1 0 ) (cwV 2 hts gX2_at_X2_fails rfl rfl rfl (by decide +kernel) ⟨Nat.le_of_ble_eq_true rfl, Nat.le_of_ble_eq_true rfl⟩) ⟨WD.fb, (va_recv hK hP (ci := 2) (q0 := 0) rfl rfl), fun U hU hW => ⟨rfl, WD.call hP hD hK hE hS hU hW⟩⟩ rfl rfl hl.1 rfl (lv_room (Nat.le_of_ble_eq_true rfl)) dX2_at_42 ⟨Nat.le_of_ble_eq_true rfl, Nat.le_of_ble_eq_true rfl⟩) hS (fun q _ h => h) (fun q h => h) (fun r42 u42 t42 H locs ht42 hvm42 hw42 hB42 hz42 hk42 hS => ?_)
    obtain ⟨hP, hD⟩ := hB42
    rw [ht42] at hP
    rcases hw42 with ⟨rfl, h42⟩ | ⟨rfl, h42⟩
    rotate_left
    · exact absurd h42.1 (by decide)
    have hu42 : u42 = 1 := u1 h42
    subst hu42
    refine lv_if_eq (tgt := 50) hx hb dX2_at_45 (by decide) (fun c45 => absurd c45 (by decide)) (fun c45 => ?_)
    refine lv_lconst (v := 0) hx hb dX2_at_48 (by decide) ?_
    exact W.lret (v := 0) hx hb hr (fun t ht _ => ⟨⟨_, (1), rfl, Or.inl ⟨rfl, h1⟩, by rw [ht]; exact hP, hD⟩, hS.F ht⟩) hS.2.2 dX2_at_49
  · skip
    obtain ⟨a, ha, ea⟩ := h1
    refine lv_istore_n (lv' := [(3, .int 0), (0, .ref (ad 30)), (1, .int x), (2, .int i)]) hx hb dX2_at_4 rfl hl (by decide) rfl (fun ls hl => ?_)
    refine lv_aload_n hx hb dX2_at_5 rfl (lv_at hl 1 rfl) ?_
    refine lv_iload_n hx hb dX2_at_6 rfl (lv_at hl 0 rfl) ?_
    refine lv_iload_n hx hb dX2_at_7 rfl (lv_at hl 0 rfl) ?_
    refine lv_if_ne (tgt := 41) hx hb dX2_at_8 (by decide) (fun c8 => absurd c8 (by decide)) (fun c8 => ?_)
    refine lv_aload_n hx hb dX2_at_11 rfl (lv_at hl 1 rfl) ?_
    refine lv_iload_n hx hb dX2_at_12 rfl (lv_at hl 2 rfl) ?_
    refine vp_callSi (W.runV (As := [.int x]) (rest := [.int 0, .ref (ad 30)]) ⟨hx, hb, hml, hown, hts⟩ (c_X2_makeOf l D ci ad z F th hd mk sz ce as np kd pu Hg Z x a hH hZ ha ea) (cwV 1 hts gX2_at_X2_makeOf rfl rfl rfl (by decide +kernel) ⟨Nat.le_of_ble_eq_true rfl, Nat.le_of_ble_eq_true rfl⟩) ⟨WD.fb, (va_recv hK hP (ci := 2) (q0 := 0) rfl rfl), fun U hU hW => ⟨rfl, WD.call hP hD hK hE hS hU hW⟩⟩ rfl rfl hl.1 rfl (lv_room (Nat.le_of_ble_eq_true rfl)) dX2_at_13 ⟨Nat.le_of_ble_eq_true rfl, Nat.le_of_ble_eq_true rfl⟩) (fun r13 hw13 => ?_)
    subst hw13
    refine vp_callSi (W.runS (As := [.int (mV mk (Hg a))]) (rest := [.int 0, .ref (ad 30)]) ⟨hx, hb, hml, hown, hts⟩ (c_X2_isRow l (mV mk (Hg a)) ) (va_cwS 1 hts gX2_at_X2_isRow rfl rfl rfl (by decide +kernel) ⟨Nat.le_of_ble_eq_true rfl, Nat.le_of_ble_eq_true rfl⟩) ⟨fb0, fun U hU hW => ⟨rfl, trivial⟩⟩ rfl rfl hl.1 rfl (lv_room (Nat.le_of_ble_eq_true rfl)) dX2_at_16 ⟨Nat.le_of_ble_eq_true rfl, Nat.le_of_ble_eq_true rfl⟩) (fun r16 hw16 => ?_)
    rcases hw16 with ⟨rfl, h16⟩ | ⟨rfl, h16⟩
    · skip
      refine lv_if_eq (tgt := 37) hx hb dX2_at_19 (by decide) (fun c19 => absurd c19 (by decide)) (fun c19 => ?_)
      refine lv_iload_n hx hb dX2_at_22 rfl (lv_at hl 3 rfl) ?_
      refine lv_iconst (v := 0) hx hb dX2_at_23 (by decide) ?_
      refine lv_aload_n hx hb dX2_at_24 rfl (lv_at hl 1 rfl) ?_
      refine lv_iload_n hx hb dX2_at_25 rfl (lv_at hl 2 rfl) ?_
      refine vp_callSi (W.runV (As := [.int x]) (rest := [.int 0, .int i, .int 0, .ref (ad 30)]) ⟨hx, hb, hml, hown, hts⟩ (c_X2_sizeOf l D ci ad z F th hd mk sz ce as np kd pu Hg Z x a hH hZ ha ea) (cwV 1 hts gX2_at_X2_sizeOf rfl rfl rfl (by decide +kernel) ⟨Nat.le_of_ble_eq_true rfl, Nat.le_of_ble_eq_true rfl⟩) ⟨WD.fb, (va_recv hK hP (ci := 2) (q0 := 0) rfl rfl), fun U hU hW => ⟨rfl, WD.call hP hD hK hE hS hU hW⟩⟩ rfl rfl hl.1 rfl (lv_room (Nat.le_of_ble_eq_true rfl)) dX2_at_26 ⟨Nat.le_of_ble_eq_true rfl, Nat.le_of_ble_eq_true rfl⟩) (fun r26 hw26 => ?_)
      subst hw26
      refine lv_iconst (v := 1) hx hb dX2_at_29 (by decide) ?_
      refine lv_isub hx hb dX2_at_30 ?_
      have hS40 : sV mk Z (Hg a) ≤ 40 := sV_40 hZ (hH a ha).1
      refine vp_callSi (W.runS (As := [.int i, .int 0, .int ((nI (sV mk Z (Hg a))) - 1)]) (rest := [.int 0, .ref (ad 30)]) ⟨hx, hb, hml, hown, hts⟩ (c_X2_outside l i 0 ((nI (sV mk Z (Hg a))) - 1) ) (va_cwS 3 hts gX2_at_X2_outside rfl rfl rfl (by decide +kernel) ⟨Nat.le_of_ble_eq_true rfl, Nat.le_of_ble_eq_true rfl⟩) ⟨fb0, fun U hU hW => ⟨rfl, trivial⟩⟩ rfl rfl hl.1 rfl (lv_room (Nat.le_of_ble_eq_true rfl)) dX2_at_31 ⟨Nat.le_of_ble_eq_true rfl, Nat.le_of_ble_eq_true rfl⟩) (fun r31 hw31 => ?_)
      rcases hw31 with ⟨rfl, h31⟩ | ⟨rfl, h31⟩
      · skip
        refine lv_if_eq (tgt := 41) hx hb dX2_at_34 (by decide) (fun c34 => absurd c34 (by decide)) (fun c34 => ?_)
        refine lv_iconst (v := 1) hx hb dX2_at_37 (by decide) ?_
        refine lv_goto (tgt := 42) hx hb dX2_at_38 (by decide) ?_
        refine va_calli (va_runV (As := [.int 0, .int 1]) (rest := []) ⟨hx, hb, hml, hown, hts⟩ (c_X2_fails l D ci ad z F th hd mk sz ce as np kd pu 0 1 ) (cwV 2 hts gX2_at_X2_fails rfl rfl rfl (by decide +kernel) ⟨Nat.le_of_ble_eq_true rfl, Nat.le_of_ble_eq_true rfl⟩) ⟨WD.fb, (va_recv hK hP (ci := 2) (q0 := 0) rfl rfl), fun U hU hW => ⟨rfl, WD.call hP hD hK hE hS hU hW⟩⟩ rfl rfl hl.1 rfl (lv_room (Nat.le_of_ble_eq_true rfl)) dX2_at_42 ⟨Nat.le_of_ble_eq_true rfl, Nat.le_of_ble_eq_true rfl⟩) hS (fun q _ h => h) (fun q h => h) (fun r42 u42 t42 H locs ht42 hvm42 hw42 hB42 hz42 hk42 hS => ?_)
        obtain ⟨hP, hD⟩ := hB42
        rw [ht42] at hP
        rcases hw42 with ⟨rfl, h42⟩ | ⟨rfl, h42⟩
        rotate_left
        · exact absurd h42.2.1 (by decide)
        have hu42 : u42 = 2 := u2 h42
        subst hu42
        refine lv_if_eq (tgt := 50) hx hb dX2_at_45 (by decide) (fun c45 => absurd c45 (by decide)) (fun c45 => ?_)
        refine lv_lconst (v := 0) hx hb dX2_at_48 (by decide) ?_
        exact W.lret (v := 0) hx hb hr (fun t ht _ => ⟨⟨_, (2), rfl, Or.inr (Or.inl ⟨rfl, a, ha, ea, Or.inr (out_y (by omega) h31)⟩), by rw [ht]; exact hP, hD⟩, hS.F ht⟩) hS.2.2 dX2_at_49
      · skip
        obtain ⟨k, hk, ek⟩ := out_n (by omega) h31
        have hta := hd_9 hH ha (mV_n4 h16)
        refine lv_if_eq (tgt := 41) hx hb dX2_at_34 (by decide) (fun c34 => ?_) (fun c34 => absurd c34 (by decide))
        refine lv_iconst (v := 0) hx hb dX2_at_41 (by decide) ?_
        refine va_calli (va_runV (As := [.int 0, .int 0]) (rest := []) ⟨hx, hb, hml, hown, hts⟩ (c_X2_fails l D ci ad z F th hd mk sz ce as np kd pu 0 0 ) (cwV 2 hts gX2_at_X2_fails rfl rfl rfl (by decide +kernel) ⟨Nat.le_of_ble_eq_true rfl, Nat.le_of_ble_eq_true rfl⟩) ⟨WD.fb, (va_recv hK hP (ci := 2) (q0 := 0) rfl rfl), fun U hU hW => ⟨rfl, WD.call hP hD hK hE hS hU hW⟩⟩ rfl rfl hl.1 rfl (lv_room (Nat.le_of_ble_eq_true rfl)) dX2_at_42 ⟨Nat.le_of_ble_eq_true rfl, Nat.le_of_ble_eq_true rfl⟩) hS (fun q _ h => h) (fun q h => h) (fun r42 u42 t42 H locs ht42 hvm42 hw42 hB42 hz42 hk42 hS => ?_)
        obtain ⟨hP, hD⟩ := hB42
        rw [ht42] at hP
        rcases hw42 with ⟨rfl, h42⟩ | ⟨rfl, h42⟩
        · exact absurd rfl (h42.elim (fun q => q.1) (fun q => q.2.1))
        have hu42 : u42 = 0 := h42.2.2
        subst hu42
        refine lv_if_eq (tgt := 50) hx hb dX2_at_45 (by decide) (fun c45 => ?_) (fun c45 => absurd c45 (by decide))
        refine lv_aload_n hx hb dX2_at_50 rfl (lv_at hl 1 rfl) ?_
        refine va_get (D := D) (ci := 2) (C := RX2) (T := TX2) (N := 9) hx hb hts hin2 hown hK hP 0 rfl rfl 4 (by decide) (hts (.fieldLink RX2 19 "DutyRotaModel" "cells" "[J") (by decide +kernel)) (fun _ h9 => h9) rfl dX2_at_51 ?_
        refine lv_bipush (v := 40) hx hb dX2_at_54 (by decide) ?_
        refine lv_aload_n hx hb dX2_at_56 rfl (lv_at hl 1 rfl) ?_
        refine va_get (D := D) (ci := 2) (C := RX2) (T := TX2) (N := 9) hx hb hts hin2 hown hK hP 0 rfl rfl 1 (by decide) (hts (.fieldLink RX2 9 "DutyRotaModel" "held" "[I") (by decide +kernel)) (fun _ h9 => h9) rfl dX2_at_57 ?_
        refine lv_iload_n hx hb dX2_at_60 rfl (lv_at hl 2 rfl) ?_
        refine rw_ild hx hb hK hP 1 0 rfl rfl (j := a) (ea) (ha) (by decide) dX2_at_61 ?_
        refine rw_topi (y := (nI (Hg a))) (hta.2) ?_
        refine lv_imul hx hb dX2_at_62 ?_
        refine rw_topi (y := (nI (40 * Hg a))) (ix40' _) ?_
        refine lv_iload_n hx hb dX2_at_63 rfl (lv_at hl 3 rfl) ?_
        refine lv_iadd hx hb dX2_at_64 ?_
        refine rw_topi (y := (nI (40 * Hg a + k))) (by rw [ek, nI_add]) ?_
        refine rw_lld hx hb hK hP 4 1 rfl rfl (j := (40 * Hg a + k)) (rfl) (by omega) (by decide) dX2_at_65 ?_
        exact W.lret (v := (ce (40 * Hg a + k))) hx hb hr (fun t ht _ => ⟨⟨_, (0), rfl, Or.inr (Or.inr ⟨rfl, a, k, ha, ea, h16, hk, ek, rfl⟩), by rw [ht]; exact hP, hD⟩, hS.F ht⟩) hS.2.2 dX2_at_66
    · skip
      refine lv_if_eq (tgt := 37) hx hb dX2_at_19 (by decide) (fun c19 => ?_) (fun c19 => absurd c19 (by decide))
      refine lv_iconst (v := 1) hx hb dX2_at_37 (by decide) ?_
      refine lv_goto (tgt := 42) hx hb dX2_at_38 (by decide) ?_
      refine va_calli (va_runV (As := [.int 0, .int 1]) (rest := []) ⟨hx, hb, hml, hown, hts⟩ (c_X2_fails l D ci ad z F th hd mk sz ce as np kd pu 0 1 ) (cwV 2 hts gX2_at_X2_fails rfl rfl rfl (by decide +kernel) ⟨Nat.le_of_ble_eq_true rfl, Nat.le_of_ble_eq_true rfl⟩) ⟨WD.fb, (va_recv hK hP (ci := 2) (q0 := 0) rfl rfl), fun U hU hW => ⟨rfl, WD.call hP hD hK hE hS hU hW⟩⟩ rfl rfl hl.1 rfl (lv_room (Nat.le_of_ble_eq_true rfl)) dX2_at_42 ⟨Nat.le_of_ble_eq_true rfl, Nat.le_of_ble_eq_true rfl⟩) hS (fun q _ h => h) (fun q h => h) (fun r42 u42 t42 H locs ht42 hvm42 hw42 hB42 hz42 hk42 hS => ?_)
      obtain ⟨hP, hD⟩ := hB42
      rw [ht42] at hP
      rcases hw42 with ⟨rfl, h42⟩ | ⟨rfl, h42⟩
      rotate_left
      · exact absurd h42.2.1 (by decide)
      have hu42 : u42 = 2 := u2 h42
      subst hu42
      refine lv_if_eq (tgt := 50) hx hb dX2_at_45 (by decide) (fun c45 => absurd c45 (by decide)) (fun c45 => ?_)
      refine lv_lconst (v := 0) hx hb dX2_at_48 (by decide) ?_
      exact W.lret (v := 0) hx hb hr (fun t ht _ => ⟨⟨_, (2), rfl, Or.inr (Or.inl ⟨rfl, a, ha, ea, Or.inl h16⟩), by rw [ht]; exact hP, hD⟩, hS.F ht⟩) hS.2.2 dX2_at_49
set_option maxHeartbeats 4000000 in
set_option maxRecDepth 100000 in
theorem c_X2_look (l : Launch) (D : va_G) (ci : Nat → ClassId) (ad : Nat → Nat) (z : Nat) (F : va_W) (th : Int32) (hd : Nat → Int32) (mk : Nat → Int32) (sz : Nat → Int32) (ce : Nat → Int64) (as : Nat → Int64) (np : Nat) (kd : Nat → Int32) (pu : Nat → Int64) (Hg Z : Nat → Nat) (x w : Int32) (hH : hOK hd Hg) (hZ : zOK sz Z) (hN : np ≤ 60) (hMK : ∀ t, t < 9 → ¬ mk t < 0) (hRO : ∀ h, h < 8 → mV mk (Hg h) ≤ 2 → ∀ q, q < sV mk Z (Hg h) → okV np (rV ce (Hg h) q)) (hN6 : ∀ {t : Nat}, t < 9 → ¬ mV mk t = 6) : Met l yX2_look wsX2_look ({ frames := 2, cells := 0, slots := 0, locals := 42 }) (va_Pc [.ref (ad 30), .int x, .int w] (fun U => WD D ci ad z (wM ci ad th hd mk sz ce as np kd pu ++ F) U)) (va_Qi (fun (r : Int32) (u : Int32) => (u = 1 ∧ badH x) ∨ (u = 0 ∧ ∃ a, a < 8 ∧ x = nI a ∧ lookP (mV mk (Hg a)) (sV mk Z (Hg a)) Hg a w r)) (fun u t => va_P D vwCl (wM ci ad u hd mk sz ce as np kd pu ++ F) t.heap ∧ va_D (LA z) (wM ci ad u hd mk sz ce as np kd pu ++ F)) (LA z)) 0 0 (LA z) := by
  refine Met.ofW (cc := cX2_look) (maxL := 5) (ret := (some .int)) (by decide) rfl ?_
  intro p e s m args below meth c s₁ B hml hv
  obtain ⟨rfl, hP, hD, hK, hE⟩ := hv
  have hx := B.exec
  have hb := B.bytes
  have hr := B.returns
  have hts := atoms_spec (ws := wsX2_look) B.pre
  have hown : s.vm.findClass RX2 = some m.cls := findClass_of_methodNamed B.named
  have hlocks := B.notSynchronized
  have hS : va_S (LA z) s.heap s.heap [] := va_S.rf
  have hin2 : ∀ w ∈ wsX20, w ∈ wsX2_look := by decide +kernel
  have hl := lv_entry ([.ref (ad 30), .int x, .int w]) (n := 5) (Nat.le_of_ble_eq_true rfl)
  rw [lg_entry_eq]
  generalize (lg_sl ([.ref (ad 30), .int x, .int w]) ++ List.replicate (5 - (lg_sl ([.ref (ad 30), .int x, .int w])).length) Slot.unset).toArray = ls at hl ⊢
  have hl : lv_has ls 5 [(0, .ref (ad 30)), (1, .int x), (2, .int w)] := hl
  refine lv_aload_n hx hb dX2_look_0 rfl (lv_at hl 0 rfl) ?_
  refine lv_iload_n hx hb dX2_look_1 rfl (lv_at hl 1 rfl) ?_
  refine vp_callSi (W.runS (As := [.int x]) (rest := [.ref (ad 30)]) ⟨hx, hb, hml, hown, hts⟩ (c_X2_noHook l x ) (va_cwS 1 hts gX2_look_X2_noHook rfl rfl rfl (by decide +kernel) ⟨Nat.le_of_ble_eq_true rfl, Nat.le_of_ble_eq_true rfl⟩) ⟨fb0, fun U hU hW => ⟨rfl, trivial⟩⟩ rfl rfl hl.1 rfl (lv_room (Nat.le_of_ble_eq_true rfl)) dX2_look_2 ⟨Nat.le_of_ble_eq_true rfl, Nat.le_of_ble_eq_true rfl⟩) (fun r2 hw2 => ?_)
  rcases hw2 with ⟨rfl, h2⟩ | ⟨rfl, h2⟩
  · skip
    refine lv_iconst (v := 0) hx hb dX2_look_5 (by decide) ?_
    refine va_calli (va_runV (As := [.int 1, .int 0]) (rest := []) ⟨hx, hb, hml, hown, hts⟩ (c_X2_fails l D ci ad z F th hd mk sz ce as np kd pu 1 0 ) (cwV 2 hts gX2_look_X2_fails rfl rfl rfl (by decide +kernel) ⟨Nat.le_of_ble_eq_true rfl, Nat.le_of_ble_eq_true rfl⟩) ⟨WD.fb, (va_recv hK hP (ci := 2) (q0 := 0) rfl rfl), fun U hU hW => ⟨rfl, WD.call hP hD hK hE hS hU hW⟩⟩ rfl rfl hl.1 rfl (lv_room (Nat.le_of_ble_eq_true rfl)) dX2_look_6 ⟨Nat.le_of_ble_eq_true rfl, Nat.le_of_ble_eq_true rfl⟩) hS (fun q _ h => h) (fun q h => h) (fun r6 u6 t6 H locs ht6 hvm6 hw6 hB6 hz6 hk6 hS => ?_)
    obtain ⟨hP, hD⟩ := hB6
    rw [ht6] at hP
    rcases hw6 with ⟨rfl, h6⟩ | ⟨rfl, h6⟩
    rotate_left
    · exact absurd h6.1 (by decide)
    have hu6 : u6 = 1 := u1 h6
    subst hu6
    refine lv_if_eq (tgt := 14) hx hb dX2_look_9 (by decide) (fun c9 => absurd c9 (by decide)) (fun c9 => ?_)
    refine lv_iconst (v := 0) hx hb dX2_look_12 (by decide) ?_
    exact W.iret (v := 0) hx hb hr (fun t ht _ => ⟨⟨_, (1), rfl, Or.inl ⟨rfl, h2⟩, by rw [ht]; exact hP, hD⟩, hS.F ht⟩) hS.2.2 dX2_look_13
  · skip
    obtain ⟨a, ha, ea⟩ := h2
    refine lv_iconst (v := 0) hx hb dX2_look_5 (by decide) ?_
    refine va_calli (va_runV (As := [.int 0, .int 0]) (rest := []) ⟨hx, hb, hml, hown, hts⟩ (c_X2_fails l D ci ad z F th hd mk sz ce as np kd pu 0 0 ) (cwV 2 hts gX2_look_X2_fails rfl rfl rfl (by decide +kernel) ⟨Nat.le_of_ble_eq_true rfl, Nat.le_of_ble_eq_true rfl⟩) ⟨WD.fb, (va_recv hK hP (ci := 2) (q0 := 0) rfl rfl), fun U hU hW => ⟨rfl, WD.call hP hD hK hE hS hU hW⟩⟩ rfl rfl hl.1 rfl (lv_room (Nat.le_of_ble_eq_true rfl)) dX2_look_6 ⟨Nat.le_of_ble_eq_true rfl, Nat.le_of_ble_eq_true rfl⟩) hS (fun q _ h => h) (fun q h => h) (fun r6 u6 t6 H locs ht6 hvm6 hw6 hB6 hz6 hk6 hS => ?_)
    obtain ⟨hP, hD⟩ := hB6
    rw [ht6] at hP
    rcases hw6 with ⟨rfl, h6⟩ | ⟨rfl, h6⟩
    · exact absurd rfl (h6.elim (fun q => q.1) (fun q => q.2.1))
    have hu6 : u6 = 0 := h6.2.2
    subst hu6
    refine lv_if_eq (tgt := 14) hx hb dX2_look_9 (by decide) (fun c9 => ?_) (fun c9 => absurd c9 (by decide))
    refine lv_iload_n hx hb dX2_look_14 rfl (lv_at hl 2 rfl) ?_
    refine lv_if_ne (tgt := 24) hx hb dX2_look_15 (by decide) (fun c15 => ?_) (fun c15 => ?_)
    · skip
      refine lv_iload_n hx hb dX2_look_24 rfl (lv_at hl 2 rfl) ?_
      refine lv_iconst (v := 1) hx hb dX2_look_25 (by decide) ?_
      refine lv_icmp_ne (tgt := 50) hx hb dX2_look_26 (by decide) (fun c26 => ?_) (fun c26 => ?_)
      · skip
        refine lv_iload_n hx hb dX2_look_50 rfl (lv_at hl 2 rfl) ?_
        refine lv_iconst (v := 2) hx hb dX2_look_51 (by decide) ?_
        refine lv_icmp_ne (tgt := 65) hx hb dX2_look_52 (by decide) (fun c52 => ?_) (fun c52 => ?_)
        · skip
          refine lv_iconst (v := -1) hx hb dX2_look_65 (by decide) ?_
          exact W.iret (v := (-1)) hx hb hr (fun t ht _ => ⟨⟨_, (0), rfl, Or.inr ⟨rfl, a, ha, ea, Or.inr (Or.inr (Or.inr ⟨c15, c26, c52, rfl⟩))⟩, by rw [ht]; exact hP, hD⟩, hS.F ht⟩) hS.2.2 dX2_look_66
        · skip
          refine lv_aload_n hx hb dX2_look_55 rfl (lv_at hl 0 rfl) ?_
          refine va_get (D := D) (ci := 2) (C := RX2) (T := TX2) (N := 9) hx hb hts hin2 hown hK hP 0 rfl rfl 1 (by decide) (hts (.fieldLink RX2 9 "DutyRotaModel" "held" "[I") (by decide +kernel)) (fun _ h9 => h9) rfl dX2_look_56 ?_
          refine lv_iload_n hx hb dX2_look_59 rfl (lv_at hl 1 rfl) ?_
          refine rw_ild hx hb hK hP 1 0 rfl rfl (j := a) (ea) (ha) (by decide) dX2_look_60 ?_
          refine lv_iconst (v := -1) hx hb dX2_look_61 (by decide) ?_
          refine lv_icmp_ne (tgt := 67) hx hb dX2_look_62 (by decide) (fun c62 => ?_) (fun c62 => ?_)
          · skip
            have hm6 := hd_t hH ha c62
            refine lv_iload_n hx hb dX2_look_67 rfl (lv_at hl 1 rfl) ?_
            refine lv_istore_n (lv' := [(3, .int x), (0, .ref (ad 30)), (1, .int x), (2, .int w)]) hx hb dX2_look_68 rfl hl (by decide) rfl (fun ls hl => ?_)
            refine lv_bipush (v := 7) hx hb dX2_look_69 (by decide) ?_
            refine rw_topi (y := dn (8 - 0)) (by decide) ?_
            refine lv_istore (lv' := [(4, .int (dn (8 - 0))), (3, .int x), (0, .ref (ad 30)), (1, .int x), (2, .int w)]) hx hb dX2_look_71 hl (by decide) rfl (fun ls hl => ?_)
            have loop73 : ∀ (d73 : Nat) (i : Nat) (c1 : Int32) (hd73 : 8 + 1 ≤ i + d73) (hi : i ≤ 8) (hk1 : lkI Hg a i c1) (H : Heap) (locs : List Loc) (hP : va_P D vwCl (wM ci ad 0 hd mk sz ce as np kd pu ++ F) H) (hD : va_D (LA z) (wM ci ad 0 hd mk sz ce as np kd pu ++ F)) (hS : va_S (LA z) s.heap H locs) (ls : Array Slot) (hl : lv_has ls 5 [(4, .int (dn (8 - i))), (3, .int c1), (0, .ref (ad 30)), (1, .int x), (2, .int w)]), W p l e ({ frames := 2, cells := 0, slots := 0, locals := 42 } : Room) s m ([.ref (ad 30), .int x, .int w] : List Value).toArray below meth c H locs 0 0 (MQ below (va_Qi (fun (r : Int32) (u : Int32) => (u = 1 ∧ badH x) ∨ (u = 0 ∧ ∃ a, a < 8 ∧ x = nI a ∧ lookP (mV mk (Hg a)) (sV mk Z (Hg a)) Hg a w r)) (fun u t => va_P D vwCl (wM ci ad u hd mk sz ce as np kd pu ++ F) t.heap ∧ va_D (LA z) (wM ci ad u hd mk sz ce as np kd pu ++ F)) (LA z)) ([.ref (ad 30), .int x, .int w] : List Value).toArray s 0 0 (LA z)) (F0 m 73 ls []) := by
              intro d73
              induction d73 with
              | zero => intro i c1 hd73 hi hk1 H locs hP hD hS ls hl; exact absurd hd73 (by omega)
              | succ d73 ih73 =>
                intro i c1 hd73 hi hk1 H locs hP hD hS ls hl
                refine lv_iload hx hb dX2_look_73 (lv_at hl 0 rfl) ?_
                refine lv_if_lt (tgt := 107) hx hb dX2_look_75 (by decide) (fun c75 => ?_) (fun c75 => ?_)
                · skip
                  have hi9 : i = 8 := by have := dn_neg (k := 8 - i) (by omega) c75; omega
                  refine lv_iload_n hx hb dX2_look_107 rfl (lv_at hl 1 rfl) ?_
                  exact W.iret (v := c1) hx hb hr (fun t ht _ => ⟨⟨_, (0), rfl, Or.inr ⟨rfl, a, ha, ea, Or.inr (Or.inr (Or.inl ⟨c52, Or.inr ⟨hN6 hm6.1, lkI_e (hi9 ▸ hk1)⟩⟩))⟩, by rw [ht]; exact hP, hD⟩, hS.F ht⟩) hS.2.2 dX2_look_108
                · skip
                  have hi9 : i < 8 := by have := dn_pos (k := 8 - i) (by omega) c75; omega
                  have edn : dn (8 - i) = nI (7 - i) := dn_at8 hi9
                  refine lv_aload_n hx hb dX2_look_78 rfl (lv_at hl 2 rfl) ?_
                  refine va_get (D := D) (ci := 2) (C := RX2) (T := TX2) (N := 9) hx hb hts hin2 hown hK hP 0 rfl rfl 1 (by decide) (hts (.fieldLink RX2 9 "DutyRotaModel" "held" "[I") (by decide +kernel)) (fun _ h9 => h9) rfl dX2_look_79 ?_
                  refine lv_iload hx hb dX2_look_82 (lv_at hl 0 rfl) ?_
                  refine rw_ild hx hb hK hP 1 0 rfl rfl (j := (7 - i)) (edn) (by omega) (by decide) dX2_look_84 ?_
                  refine lv_aload_n hx hb dX2_look_85 rfl (lv_at hl 2 rfl) ?_
                  refine va_get (D := D) (ci := 2) (C := RX2) (T := TX2) (N := 9) hx hb hts hin2 hown hK hP 0 rfl rfl 1 (by decide) (hts (.fieldLink RX2 9 "DutyRotaModel" "held" "[I") (by decide +kernel)) (fun _ h9 => h9) rfl dX2_look_86 ?_
                  refine lv_iload_n hx hb dX2_look_89 rfl (lv_at hl 3 rfl) ?_
                  refine rw_ild hx hb hK hP 1 0 rfl rfl (j := a) (ea) (ha) (by decide) dX2_look_90 ?_
                  refine lv_icmp_ne (tgt := 99) hx hb dX2_look_91 (by decide) (fun c91 => ?_) (fun c91 => ?_)
                  · skip
                    refine lv_iload_n hx hb dX2_look_99 rfl (lv_at hl 1 rfl) ?_
                    refine lv_istore_n (lv' := [(3, .int c1), (4, .int (dn (8 - i))), (0, .ref (ad 30)), (1, .int x), (2, .int w)]) hx hb dX2_look_100 rfl hl (by decide) rfl (fun ls hl => ?_)
                    refine lv_iinc (v := (dn (8 - (i + 1)))) (lv' := [(4, .int (dn (8 - (i + 1)))), (3, .int c1), (0, .ref (ad 30)), (1, .int x), (2, .int w)]) hx hb dX2_look_101 hl (k := 1) rfl (by rw [show 8 - i = (8 - (i + 1)) + 1 by omega]; exact dn_dec _) (by decide) rfl (fun ls hl => ?_)
                    refine lv_goto (tgt := 73) hx hb dX2_look_104 (by decide) ?_
                    exact ih73 (i + 1) c1 (by omega) (by omega) (lkI_n hi9 (fun q => c91 ((hd_eq hH (by omega) ha).mpr q)) hk1) H locs hP hD hS ls (lv_sub hl [0, 1, 2, 3, 4] rfl)
                  · skip
                    refine lv_iload hx hb dX2_look_94 (lv_at hl 0 rfl) ?_
                    refine lv_goto (tgt := 100) hx hb dX2_look_96 (by decide) ?_
                    refine lv_istore_n (lv' := [(3, .int (dn (8 - i))), (4, .int (dn (8 - i))), (0, .ref (ad 30)), (1, .int x), (2, .int w)]) hx hb dX2_look_100 rfl hl (by decide) rfl (fun ls hl => ?_)
                    refine lv_iinc (v := (dn (8 - (i + 1)))) (lv' := [(4, .int (dn (8 - (i + 1)))), (3, .int (dn (8 - i))), (0, .ref (ad 30)), (1, .int x), (2, .int w)]) hx hb dX2_look_101 hl (k := 1) rfl (by rw [show 8 - i = (8 - (i + 1)) + 1 by omega]; exact dn_dec _) (by decide) rfl (fun ls hl => ?_)
                    refine lv_goto (tgt := 73) hx hb dX2_look_104 (by decide) ?_
                    exact ih73 (i + 1) (dn (8 - i)) (by omega) (by omega) (lkI_y hi9 ((hd_eq hH (by omega) ha).mp c91) edn) H locs hP hD hS ls (lv_sub hl [0, 1, 2, 3, 4] rfl)
            exact loop73 (8 + 1) 0 x (by omega) (by omega) (⟨a, ha, ea, rfl, fun h h1 h2 => absurd h1 (by omega)⟩) H locs hP hD hS ls (lv_sub hl [0, 1, 2, 3, 4] rfl)
          · skip
            have hm6 := hd_m1 hH ha c62
            refine lv_iconst (v := -1) hx hb dX2_look_65 (by decide) ?_
            exact W.iret (v := (-1)) hx hb hr (fun t ht _ => ⟨⟨_, (0), rfl, Or.inr ⟨rfl, a, ha, ea, Or.inr (Or.inr (Or.inl ⟨c52, Or.inl ⟨mV_9 hm6, rfl⟩⟩))⟩, by rw [ht]; exact hP, hD⟩, hS.F ht⟩) hS.2.2 dX2_look_66
      · skip
        refine lv_aload_n hx hb dX2_look_29 rfl (lv_at hl 0 rfl) ?_
        refine lv_iload_n hx hb dX2_look_30 rfl (lv_at hl 1 rfl) ?_
        refine vp_callSi (W.runV (As := [.int x]) (rest := []) ⟨hx, hb, hml, hown, hts⟩ (c_X2_makeOf l D ci ad z F 0 hd mk sz ce as np kd pu Hg Z x a hH hZ ha ea) (cwV 1 hts gX2_look_X2_makeOf rfl rfl rfl (by decide +kernel) ⟨Nat.le_of_ble_eq_true rfl, Nat.le_of_ble_eq_true rfl⟩) ⟨WD.fb, (va_recv hK hP (ci := 2) (q0 := 0) rfl rfl), fun U hU hW => ⟨rfl, WD.call hP hD hK hE hS hU hW⟩⟩ rfl rfl hl.1 rfl (lv_room (Nat.le_of_ble_eq_true rfl)) dX2_look_31 ⟨Nat.le_of_ble_eq_true rfl, Nat.le_of_ble_eq_true rfl⟩) (fun r31 hw31 => ?_)
        subst hw31
        refine vp_callSi (W.runS (As := [.int (mV mk (Hg a))]) (rest := []) ⟨hx, hb, hml, hown, hts⟩ (c_X2_isRow l (mV mk (Hg a)) ) (va_cwS 1 hts gX2_look_X2_isRow rfl rfl rfl (by decide +kernel) ⟨Nat.le_of_ble_eq_true rfl, Nat.le_of_ble_eq_true rfl⟩) ⟨fb0, fun U hU hW => ⟨rfl, trivial⟩⟩ rfl rfl hl.1 rfl (lv_room (Nat.le_of_ble_eq_true rfl)) dX2_look_34 ⟨Nat.le_of_ble_eq_true rfl, Nat.le_of_ble_eq_true rfl⟩) (fun r34 hw34 => ?_)
        rcases hw34 with ⟨rfl, h34⟩ | ⟨rfl, h34⟩
        · skip
          refine lv_if_eq (tgt := 48) hx hb dX2_look_37 (by decide) (fun c37 => absurd c37 (by decide)) (fun c37 => ?_)
          refine lv_aload_n hx hb dX2_look_40 rfl (lv_at hl 0 rfl) ?_
          refine lv_iload_n hx hb dX2_look_41 rfl (lv_at hl 1 rfl) ?_
          refine vp_callSi (W.runV (As := [.int x]) (rest := []) ⟨hx, hb, hml, hown, hts⟩ (c_X2_sizeOf l D ci ad z F 0 hd mk sz ce as np kd pu Hg Z x a hH hZ ha ea) (cwV 1 hts gX2_look_X2_sizeOf rfl rfl rfl (by decide +kernel) ⟨Nat.le_of_ble_eq_true rfl, Nat.le_of_ble_eq_true rfl⟩) ⟨WD.fb, (va_recv hK hP (ci := 2) (q0 := 0) rfl rfl), fun U hU hW => ⟨rfl, WD.call hP hD hK hE hS hU hW⟩⟩ rfl rfl hl.1 rfl (lv_room (Nat.le_of_ble_eq_true rfl)) dX2_look_42 ⟨Nat.le_of_ble_eq_true rfl, Nat.le_of_ble_eq_true rfl⟩) (fun r42 hw42 => ?_)
          subst hw42
          refine lv_goto (tgt := 49) hx hb dX2_look_45 (by decide) ?_
          exact W.iret (v := (nI (sV mk Z (Hg a)))) hx hb hr (fun t ht _ => ⟨⟨_, (0), rfl, Or.inr ⟨rfl, a, ha, ea, Or.inr (Or.inl ⟨c26, Or.inl ⟨h34, rfl⟩⟩)⟩, by rw [ht]; exact hP, hD⟩, hS.F ht⟩) hS.2.2 dX2_look_49
        · skip
          refine lv_if_eq (tgt := 48) hx hb dX2_look_37 (by decide) (fun c37 => ?_) (fun c37 => absurd c37 (by decide))
          refine lv_iconst (v := -1) hx hb dX2_look_48 (by decide) ?_
          exact W.iret (v := (-1)) hx hb hr (fun t ht _ => ⟨⟨_, (0), rfl, Or.inr ⟨rfl, a, ha, ea, Or.inr (Or.inl ⟨c26, Or.inr ⟨h34, rfl⟩⟩)⟩, by rw [ht]; exact hP, hD⟩, hS.F ht⟩) hS.2.2 dX2_look_49
    · skip
      refine lv_aload_n hx hb dX2_look_18 rfl (lv_at hl 0 rfl) ?_
      refine lv_iload_n hx hb dX2_look_19 rfl (lv_at hl 1 rfl) ?_
      refine vp_callSi (W.runV (As := [.int x]) (rest := []) ⟨hx, hb, hml, hown, hts⟩ (c_X2_makeOf l D ci ad z F 0 hd mk sz ce as np kd pu Hg Z x a hH hZ ha ea) (cwV 1 hts gX2_look_X2_makeOf rfl rfl rfl (by decide +kernel) ⟨Nat.le_of_ble_eq_true rfl, Nat.le_of_ble_eq_true rfl⟩) ⟨WD.fb, (va_recv hK hP (ci := 2) (q0 := 0) rfl rfl), fun U hU hW => ⟨rfl, WD.call hP hD hK hE hS hU hW⟩⟩ rfl rfl hl.1 rfl (lv_room (Nat.le_of_ble_eq_true rfl)) dX2_look_20 ⟨Nat.le_of_ble_eq_true rfl, Nat.le_of_ble_eq_true rfl⟩) (fun r20 hw20 => ?_)
      subst hw20
      exact W.iret (v := (mV mk (Hg a))) hx hb hr (fun t ht _ => ⟨⟨_, (0), rfl, Or.inr ⟨rfl, a, ha, ea, Or.inl ⟨c15, rfl⟩⟩, by rw [ht]; exact hP, hD⟩, hS.F ht⟩) hS.2.2 dX2_look_23
