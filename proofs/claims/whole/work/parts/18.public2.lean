set_option maxHeartbeats 4000000 in
set_option maxRecDepth 100000 in
theorem c_X1_turn (l : Launch) (D : va_G) (ci : Nat → ClassId) (ad : Nat → Nat) (z : Nat) (F : va_W) (hf : Nat → Nat) (ft : Nat → Int64) (fk : Nat → Int32) (fp : Nat → Int64) (n : Nat) (mk : Nat → Int32) (sz : Nat → Nat) (pl : Nat → Nat → Int64) (x k : Int32) (hlt : l.stackTraces = false) (hHF : ∀ h, h < 8 → hf h < 10) (hSZ : ∀ i, i < 10 → sz i ≤ 40) (h9s : sz 9 = 0) (h9m : mk 9 = 6) (hN : n ≤ 60) (hKD : ∀ k, k < n → ∃ q, q < 3 ∧ fk k = nI q) : vx_Met l yX1_turn wsX1_turn ({ frames := 7, cells := 1, slots := 6, locals := 110 }) (va_Pc [.ref (ad 0), .int x, .int k] (fun U => WD D ci ad z (wC ci ad hf ft fk fp n mk sz pl ++ F) U)) (va_Qi (fun (r : Int32) (u : (Nat → Int64) × (Nat → Nat → Int64)) => ∃ a f, a < 8 ∧ x = nI a ∧ u.2 = va_up pl (hf a) f ∧ turnP (mk (hf a)) (sz (hf a)) (pl (hf a)) k r f) (fun u t => va_P D vwCl (wC ci ad hf u.1 fk fp n mk sz u.2 ++ F) t.heap ∧ va_D (LA z) (wC ci ad hf u.1 fk fp n mk sz u.2 ++ F)) (LA z)) (XT D z (wC ci ad hf ft fk fp n mk sz pl ++ F) (fun E => E = iaeN ∧ badH x)) 1 6 (LA z) := by
  refine vx_ofW (cc := cX1_turn) (maxL := 5) (ret := (some .int)) (by decide) rfl ?_
  intro p e s m args below meth c s₁ B hml hex hv
  obtain ⟨rfl, hP, hD, hK, hE⟩ := hv
  have hx := B.exec
  have hb := B.bytes
  have hr := B.returns
  have hts := atoms_spec (ws := wsX1_turn) B.pre
  have hown : s.vm.findClass RX1 = some m.cls := findClass_of_methodNamed B.named
  have hlocks := B.notSynchronized
  have hS : va_S (LA z) s.heap s.heap [] := va_S.rf
  have hex0 : ∀ (j : Nat), ∀ x ∈ c.exceptionTable.toList, covers x j = false := fun _ x hx => (hex x hx).elim
  have hin0 : ∀ w ∈ wsX00, w ∈ wsX1_turn := by decide +kernel
  have hin1 : ∀ w ∈ wsX10, w ∈ wsX1_turn := by decide +kernel
  have hl := lv_entry ([.ref (ad 0), .int x, .int k]) (n := 5) (Nat.le_of_ble_eq_true rfl)
  rw [lg_entry_eq]
  generalize (lg_sl ([.ref (ad 0), .int x, .int k]) ++ List.replicate (5 - (lg_sl ([.ref (ad 0), .int x, .int k])).length) Slot.unset).toArray = ls at hl ⊢
  have hl : lv_has ls 5 [(0, .ref (ad 0)), (1, .int x), (2, .int k)] := hl
  refine lv_iload_n hx hb dX1_turn_0 rfl (lv_at hl 1 rfl) ?_
  refine vx_callv (vx_runS (As := [.int x]) (rest := []) ⟨hx, hb, hml, hown, hts⟩ (c_X1_requireHook l D ci ad z F hf ft fk fp n mk sz pl x hlt ) (va_cwS 1 hts gX1_turn_X1_requireHook rfl rfl rfl (by decide +kernel) ⟨Nat.le_of_ble_eq_true rfl, Nat.le_of_ble_eq_true rfl⟩) ⟨WD.fb, fun U hU hW => ⟨rfl, WD.call hP hD hK hE hS hU hW⟩⟩ rfl rfl hl.1 rfl (lv_room (Nat.le_of_ble_eq_true rfl)) dX1_turn_1 ⟨Nat.le_of_ble_eq_true rfl, Nat.le_of_ble_eq_true rfl⟩) hS (fun q _ h => h) (fun q h => h) (fun q _ h => h) (fun E1 ce1 qx1 u1 t1 H locs ht1 hvm1 hpx1 hB1 hz1 hk1 hS hce1 hcv1 hcl1 => ?_) (fun u1 t1 H locs ht1 hvm1 hw1 hB1 hz1 hk1 hS => ?_)
  · skip
    obtain ⟨hph, hP, hD⟩ := hB1
    rw [ht1] at hP
    exact vx_out (hex0 _) hlocks hce1 hcv1 hcl1 (XT.out hP hD hS (hph)) hS.2.2 (by decide) (by decide)
  obtain ⟨hP, hD⟩ := hB1
  rw [ht1] at hP
  obtain ⟨a, ha, ea⟩ := hw1
  refine lv_aload_n hx hb dX1_turn_4 rfl (lv_at hl 0 rfl) ?_
  refine va_get (D := D) (ci := 1) (C := RX1) (T := TX1) (N := 7) hx hb hts hin1 hown hK hP 0 rfl rfl 1 (by decide) (hts (.fieldLink RX1 18 "DutyRota" "hooks" "[LDutyRota$Sheet;") (by decide +kernel)) (fun _ h9 => h9) rfl dX1_turn_5 ?_
  refine lv_iload_n hx hb dX1_turn_8 rfl (lv_at hl 1 rfl) ?_
  refine rw_rld hx hb hK hP 1 2 rfl rfl (j := a) (ea) (ha) (by decide) rfl dX1_turn_9 ?_
  refine lv_astore_n (lv' := [(3, .ref (ad (10 + (hf a)))), (0, .ref (ad 0)), (1, .int x), (2, .int k)]) hx hb dX1_turn_10 rfl hl (by decide) rfl (fun ls hl => ?_)
  refine lv_aload_n hx hb dX1_turn_11 rfl (lv_at hl 0 rfl) ?_
  refine vp_callSi (toCR (va_runVN (As := []) (rest := []) ⟨hx, hb, hml, hown, hts⟩ (c_X0_isNothing l D ci ad z F hf ft fk fp n mk sz pl (hf a)  (hHF a ha) ) ⟨va_cnB 0 hts gX1_turn_X0_isNothing_n67 rfl rfl rfl (hE.nM (by decide +kernel)) (hts (.initialized RX0) (by decide +kernel)) (by decide +kernel) ⟨Nat.le_of_ble_eq_true rfl, Nat.le_of_ble_eq_true rfl⟩, hts (.instanceMethod yX0_isNothing) (by decide +kernel), hts (.selects RX0 yX0_isNothing yX0_isNothing) (by decide +kernel)⟩ ⟨WD.fb, (va_recv hK hP (ci := 0) (q0 := 6 + (hf a)) rfl (wC_sh (hHF a ha))), fun U hU hW => ⟨rfl, WD.call hP hD hK hE hS hU hW⟩⟩ rfl rfl hl.1 rfl (lv_room (Nat.le_of_ble_eq_true rfl)) dX1_turn_12 ⟨Nat.le_of_ble_eq_true rfl, Nat.le_of_ble_eq_true rfl⟩)) (fun r12 hw12 => ?_)
  rcases hw12 with ⟨rfl, h12⟩ | ⟨rfl, h12⟩
  · skip
    refine lv_if_eq (tgt := 20) hx hb dX1_turn_15 (by decide) (fun c15 => absurd c15 (by decide)) (fun c15 => ?_)
    refine lv_iconst (v := 1) hx hb dX1_turn_18 (by decide) ?_
    refine vx_ret ?_
    exact W.iret (v := 1) hx hb hr (fun t ht _ => ⟨⟨_, (ft, pl), rfl, ⟨a, _, ha, ea, (up_self _ _).symm, Or.inl ⟨h12, rfl, rfl⟩⟩, by rw [ht]; exact hP, hD⟩, hS.F ht⟩) hS.2.2 dX1_turn_19
  · skip
    refine lv_if_eq (tgt := 20) hx hb dX1_turn_15 (by decide) (fun c15 => ?_) (fun c15 => absurd c15 (by decide))
    refine lv_aload_n hx hb dX1_turn_20 rfl (lv_at hl 0 rfl) ?_
    refine vp_callSi (toCR (va_runVN (As := []) (rest := []) ⟨hx, hb, hml, hown, hts⟩ (c_X0_isRow l D ci ad z F hf ft fk fp n mk sz pl (hf a)  (hHF a ha) ) ⟨va_cnB 0 hts gX1_turn_X0_isRow_n89 rfl rfl rfl (hE.nM (by decide +kernel)) (hts (.initialized RX0) (by decide +kernel)) (by decide +kernel) ⟨Nat.le_of_ble_eq_true rfl, Nat.le_of_ble_eq_true rfl⟩, hts (.instanceMethod yX0_isRow) (by decide +kernel), hts (.selects RX0 yX0_isRow yX0_isRow) (by decide +kernel)⟩ ⟨WD.fb, (va_recv hK hP (ci := 0) (q0 := 6 + (hf a)) rfl (wC_sh (hHF a ha))), fun U hU hW => ⟨rfl, WD.call hP hD hK hE hS hU hW⟩⟩ rfl rfl hl.1 rfl (lv_room (Nat.le_of_ble_eq_true rfl)) dX1_turn_21 ⟨Nat.le_of_ble_eq_true rfl, Nat.le_of_ble_eq_true rfl⟩)) (fun r21 hw21 => ?_)
    rcases hw21 with ⟨rfl, h21⟩ | ⟨rfl, h21⟩
    · skip
      refine lv_if_ne (tgt := 29) hx hb dX1_turn_24 (by decide) (fun c24 => ?_) (fun c24 => absurd c24 (by decide))
      refine lv_iload_n hx hb dX1_turn_29 rfl (lv_at hl 3 rfl) ?_
      refine lv_if_lt (tgt := 41) hx hb dX1_turn_30 (by decide) (fun c30 => ?_) (fun c30 => ?_)
      · skip
        refine lv_iconst (v := 3) hx hb dX1_turn_41 (by decide) ?_
        refine vx_ret ?_
        exact W.iret (v := 3) hx hb hr (fun t ht _ => ⟨⟨_, (ft, pl), rfl, ⟨a, _, ha, ea, (up_self _ _).symm, Or.inr (Or.inr (Or.inl ⟨h12, h21, Or.inl c30, rfl, rfl⟩))⟩, by rw [ht]; exact hP, hD⟩, hS.F ht⟩) hS.2.2 dX1_turn_42
      · skip
        refine lv_iload_n hx hb dX1_turn_33 rfl (lv_at hl 3 rfl) ?_
        refine lv_aload_n hx hb dX1_turn_34 rfl (lv_at hl 0 rfl) ?_
        refine va_getN (D := D) (ci := 0) (C := RX0) (T := TX0) (N := 3) hx hb hts hin0 hown hK hP (6 + (hf a)) (wC_sh (hHF a ha)) rfl 2 (by decide) (hE.nF (by decide +kernel)) (fun _ h9 => h9) rfl dX1_turn_35 ?_
        refine lv_icmp_le (tgt := 43) hx hb dX1_turn_38 (by decide) (fun c38 => ?_) (fun c38 => ?_)
        · skip
          have hs40 := hSZ _ (hHF a ha)
          have h9 : hf a < 9 := ne9 h9m (hHF a ha) h12
          obtain ⟨K, hKS, eK⟩ := le_in hs40 c30 c38
          refine lv_aload_n hx hb dX1_turn_43 rfl (lv_at hl 0 rfl) ?_
          refine va_getN (D := D) (ci := 0) (C := RX0) (T := TX0) (N := 3) hx hb hts hin0 hown hK hP (6 + (hf a)) (wC_sh (hHF a ha)) rfl 2 (by decide) (hE.nF (by decide +kernel)) (fun _ h9 => h9) rfl dX1_turn_44 ?_
          refine lv_iload_n hx hb dX1_turn_47 rfl (lv_at hl 3 rfl) ?_
          refine lv_isub hx hb dX1_turn_48 ?_
          refine rw_topi (y := (nI (sz (hf a) - K))) (by rw [eK, pk_sub hKS]) ?_
          refine lv_istore (lv' := [(4, .int (nI (sz (hf a) - K))), (3, .ref (ad (10 + (hf a)))), (0, .ref (ad 0)), (1, .int x), (2, .int k)]) hx hb dX1_turn_49 hl (by decide) rfl (fun ls hl => ?_)
          refine lv_aload_n hx hb dX1_turn_51 rfl (lv_at hl 1 rfl) ?_
          refine va_getN (D := D) (ci := 0) (C := RX0) (T := TX0) (N := 3) hx hb hts hin0 hown hK hP (6 + (hf a)) (wC_sh (hHF a ha)) rfl 0 (by decide) (hE.nF (by decide +kernel)) (fun _ h9 => h9) rfl dX1_turn_52 ?_
          refine lv_iconst (v := 0) hx hb dX1_turn_55 (by decide) ?_
          refine lv_aload_n hx hb dX1_turn_56 rfl (lv_at hl 2 rfl) ?_
          refine va_get (D := D) (ci := 1) (C := RX1) (T := TX1) (N := 7) hx hb hts hin1 hown hK hP 0 rfl rfl 3 (by decide) (hts (.fieldLink RX1 25 "DutyRota" "taken" "[J") (by decide +kernel)) (fun _ h9 => h9) rfl dX1_turn_57 ?_
          refine lv_iconst (v := 0) hx hb dX1_turn_60 (by decide) ?_
          refine lv_iload_n hx hb dX1_turn_61 rfl (lv_at hl 4 rfl) ?_
          refine rw_cpy hx hb (hml.trans hl.1.symm) hown (hts (.methodLink RX1 102 arraycopyName) (by decide +kernel)) (hts (.native arraycopyName) (by decide +kernel)) (hts (.static arraycopyName) (by decide +kernel)) (hts (.initialized "java/lang/System") (by decide +kernel)) hK hP hD hS (16 + (hf a)) 3 1 (wC_pl h9) rfl rfl (i := 0) (j := 0) (k := K) (rfl) (rfl) (eK) (by omega) (by omega) (by decide) (by decide) (ws' := wC ci ad hf (va_cpy (pl (hf a)) ft 0 0 K) fk fp n mk sz pl ++ F) rfl (Nat.le_of_ble_eq_true rfl) (Nat.le_of_ble_eq_true rfl) dX1_turn_62 (fun H locs hP hD hS => ?_)
          refine lv_aload_n hx hb dX1_turn_65 rfl (lv_at hl 1 rfl) ?_
          refine va_getN (D := D) (ci := 0) (C := RX0) (T := TX0) (N := 3) hx hb hts hin0 hown hK hP (6 + (hf a)) (wC_sh (hHF a ha)) rfl 0 (by decide) (hE.nF (by decide +kernel)) (fun _ h9 => h9) rfl dX1_turn_66 ?_
          refine lv_iload_n hx hb dX1_turn_69 rfl (lv_at hl 4 rfl) ?_
          refine lv_aload_n hx hb dX1_turn_70 rfl (lv_at hl 1 rfl) ?_
          refine va_getN (D := D) (ci := 0) (C := RX0) (T := TX0) (N := 3) hx hb hts hin0 hown hK hP (6 + (hf a)) (wC_sh (hHF a ha)) rfl 0 (by decide) (hE.nF (by decide +kernel)) (fun _ h9 => h9) rfl dX1_turn_71 ?_
          refine lv_iconst (v := 0) hx hb dX1_turn_74 (by decide) ?_
          refine lv_iload hx hb dX1_turn_75 (lv_at hl 0 rfl) ?_
          refine rw_cpy hx hb (hml.trans hl.1.symm) hown (hts (.methodLink RX1 102 arraycopyName) (by decide +kernel)) (hts (.native arraycopyName) (by decide +kernel)) (hts (.static arraycopyName) (by decide +kernel)) (hts (.initialized "java/lang/System") (by decide +kernel)) hK hP hD hS (16 + (hf a)) (16 + (hf a)) 1 (wC_pl h9) (wC_pl h9) rfl (i := K) (j := 0) (k := (sz (hf a) - K)) (eK) (rfl) (rfl) (by omega) (by omega) (by decide) (by decide) (ws' := wC ci ad hf (va_cpy (pl (hf a)) ft 0 0 K) fk fp n mk sz (va_up pl (hf a) (va_cpy (pl (hf a)) (pl (hf a)) K 0 (sz (hf a) - K))) ++ F) (wC_set_pl h9 _) (Nat.le_of_ble_eq_true rfl) (Nat.le_of_ble_eq_true rfl) dX1_turn_77 (fun H locs hP hD hS => ?_)
          refine lv_aload_n hx hb dX1_turn_80 rfl (lv_at hl 2 rfl) ?_
          refine va_get (D := D) (ci := 1) (C := RX1) (T := TX1) (N := 7) hx hb hts hin1 hown hK hP 0 rfl rfl 3 (by decide) (hts (.fieldLink RX1 25 "DutyRota" "taken" "[J") (by decide +kernel)) (fun _ h9 => h9) rfl dX1_turn_81 ?_
          refine lv_iconst (v := 0) hx hb dX1_turn_84 (by decide) ?_
          refine lv_aload_n hx hb dX1_turn_85 rfl (lv_at hl 1 rfl) ?_
          refine va_getN (D := D) (ci := 0) (C := RX0) (T := TX0) (N := 3) hx hb hts hin0 hown hK hP (6 + (hf a)) (wC_sh (hHF a ha)) rfl 0 (by decide) (hE.nF (by decide +kernel)) (fun _ h9 => h9) rfl dX1_turn_86 ?_
          refine lv_iload hx hb dX1_turn_89 (lv_at hl 0 rfl) ?_
          refine lv_iload_n hx hb dX1_turn_91 rfl (lv_at hl 4 rfl) ?_
          refine rw_cpy hx hb (hml.trans hl.1.symm) hown (hts (.methodLink RX1 102 arraycopyName) (by decide +kernel)) (hts (.native arraycopyName) (by decide +kernel)) (hts (.static arraycopyName) (by decide +kernel)) (hts (.initialized "java/lang/System") (by decide +kernel)) hK hP hD hS 3 (16 + (hf a)) 1 rfl (wC_pl h9) rfl (i := 0) (j := (sz (hf a) - K)) (k := K) (rfl) (rfl) (eK) (by omega) (by omega) (by decide) (by decide) (ws' := wC ci ad hf (va_cpy (pl (hf a)) ft 0 0 K) fk fp n mk sz (va_up (va_up pl (hf a) (va_cpy (pl (hf a)) (pl (hf a)) K 0 (sz (hf a) - K))) (hf a) (va_cpy (va_cpy (pl (hf a)) ft 0 0 K) ((va_up pl (hf a) (va_cpy (pl (hf a)) (pl (hf a)) K 0 (sz (hf a) - K))) (hf a)) 0 (sz (hf a) - K) K)) ++ F) (wC_set_pl h9 _) (Nat.le_of_ble_eq_true rfl) (Nat.le_of_ble_eq_true rfl) dX1_turn_92 (fun H locs hP hD hS => ?_)
          refine lv_iconst (v := 0) hx hb dX1_turn_95 (by decide) ?_
          refine vx_ret ?_
          exact W.iret (v := 0) hx hb hr (fun t ht _ => ⟨⟨_, ((va_cpy (pl (hf a)) ft 0 0 K), (va_up (va_up pl (hf a) (va_cpy (pl (hf a)) (pl (hf a)) K 0 (sz (hf a) - K))) (hf a) (va_cpy (va_cpy (pl (hf a)) ft 0 0 K) ((va_up pl (hf a) (va_cpy (pl (hf a)) (pl (hf a)) K 0 (sz (hf a) - K))) (hf a)) 0 (sz (hf a) - K) K))), rfl, ⟨a, _, ha, ea, turn_row hKS, Or.inr (Or.inr (Or.inr ⟨h12, h21, K, eK, hKS, rfl, rfl⟩))⟩, by rw [ht]; exact hP, hD⟩, hS.F ht⟩) hS.2.2 dX1_turn_96
        · skip
          refine lv_iconst (v := 3) hx hb dX1_turn_41 (by decide) ?_
          refine vx_ret ?_
          exact W.iret (v := 3) hx hb hr (fun t ht _ => ⟨⟨_, (ft, pl), rfl, ⟨a, _, ha, ea, (up_self _ _).symm, Or.inr (Or.inr (Or.inl ⟨h12, h21, Or.inr (Int32.not_le.mp c38), rfl, rfl⟩))⟩, by rw [ht]; exact hP, hD⟩, hS.F ht⟩) hS.2.2 dX1_turn_42
    · skip
      refine lv_if_ne (tgt := 29) hx hb dX1_turn_24 (by decide) (fun c24 => absurd c24 (by decide)) (fun c24 => ?_)
      refine lv_iconst (v := 2) hx hb dX1_turn_27 (by decide) ?_
      refine vx_ret ?_
      exact W.iret (v := 2) hx hb hr (fun t ht _ => ⟨⟨_, (ft, pl), rfl, ⟨a, _, ha, ea, (up_self _ _).symm, Or.inr (Or.inl ⟨h12, h21, rfl, rfl⟩)⟩, by rw [ht]; exact hP, hD⟩, hS.F ht⟩) hS.2.2 dX1_turn_28
set_option maxHeartbeats 4000000 in
set_option maxRecDepth 100000 in
theorem c_X1_pay (l : Launch) (D : va_G) (ci : Nat → ClassId) (ad : Nat → Nat) (z : Nat) (F : va_W) (hf : Nat → Nat) (ft : Nat → Int64) (fk : Nat → Int32) (fp : Nat → Int64) (n : Nat) (mk : Nat → Int32) (sz : Nat → Nat) (pl : Nat → Nat → Int64) (x y t : Int32) (hlt : l.stackTraces = false) (hHF : ∀ h, h < 8 → hf h < 10) (hSZ : ∀ i, i < 10 → sz i ≤ 40) (h9s : sz 9 = 0) (h9m : mk 9 = 6) (hN : n ≤ 60) (hKD : ∀ k, k < n → ∃ q, q < 3 ∧ fk k = nI q) : vx_Met l yX1_pay wsX1_pay ({ frames := 7, cells := 3, slots := 18, locals := 110 }) (va_Pc [.ref (ad 0), .int x, .int y, .int t] (fun U => WD D ci ad z (wC ci ad hf ft fk fp n mk sz pl ++ F) U)) (va_Qi (fun (r : Int32) (u : Nat → Int64) => ∃ a b d, a < 8 ∧ b < 8 ∧ d < 8 ∧ x = nI a ∧ y = nI b ∧ t = nI d ∧ payP (mk (hf a)) (mk (hf b)) (mk (hf d)) (sz (hf a)) (sz (hf b)) (sz (hf d)) (pl (hf a)) (pl (hf b)) (pl (hf d)) fk n fp r u) (fun u t => va_P D vwCl (wC ci ad hf ft fk u n mk sz pl ++ F) t.heap ∧ va_D (LA z) (wC ci ad hf ft fk u n mk sz pl ++ F)) (LA z)) (XT D z (wC ci ad hf ft fk fp n mk sz pl ++ F) (fun E => E = iaeN ∧ (badH x ∨ badH y ∨ badH t))) 3 18 (LA z) := by
  refine vx_ofW (cc := cX1_pay) (maxL := 8) (ret := (some .int)) (by decide) rfl ?_
  intro p e s m args below meth c s₁ B hml hex hv
  obtain ⟨rfl, hP, hD, hK, hE⟩ := hv
  have hx := B.exec
  have hb := B.bytes
  have hr := B.returns
  have hts := atoms_spec (ws := wsX1_pay) B.pre
  have hown : s.vm.findClass RX1 = some m.cls := findClass_of_methodNamed B.named
  have hlocks := B.notSynchronized
  have hS : va_S (LA z) s.heap s.heap [] := va_S.rf
  have hex0 : ∀ (j : Nat), ∀ x ∈ c.exceptionTable.toList, covers x j = false := fun _ x hx => (hex x hx).elim
  have hin0 : ∀ w ∈ wsX00, w ∈ wsX1_pay := by decide +kernel
  have hin1 : ∀ w ∈ wsX10, w ∈ wsX1_pay := by decide +kernel
  have hl := lv_entry ([.ref (ad 0), .int x, .int y, .int t]) (n := 8) (Nat.le_of_ble_eq_true rfl)
  rw [lg_entry_eq]
  generalize (lg_sl ([.ref (ad 0), .int x, .int y, .int t]) ++ List.replicate (8 - (lg_sl ([.ref (ad 0), .int x, .int y, .int t])).length) Slot.unset).toArray = ls at hl ⊢
  have hl : lv_has ls 8 [(0, .ref (ad 0)), (1, .int x), (2, .int y), (3, .int t)] := hl
  refine lv_iload_n hx hb dX1_pay_0 rfl (lv_at hl 1 rfl) ?_
  refine vx_callv (vx_runS (As := [.int x]) (rest := []) ⟨hx, hb, hml, hown, hts⟩ (c_X1_requireHook l D ci ad z F hf ft fk fp n mk sz pl x hlt ) (va_cwS 1 hts gX1_pay_X1_requireHook rfl rfl rfl (by decide +kernel) ⟨Nat.le_of_ble_eq_true rfl, Nat.le_of_ble_eq_true rfl⟩) ⟨WD.fb, fun U hU hW => ⟨rfl, WD.call hP hD hK hE hS hU hW⟩⟩ rfl rfl hl.1 rfl (lv_room (Nat.le_of_ble_eq_true rfl)) dX1_pay_1 ⟨Nat.le_of_ble_eq_true rfl, Nat.le_of_ble_eq_true rfl⟩) hS (fun q _ h => h) (fun q h => h) (fun q _ h => h) (fun E1 ce1 qx1 u1 t1 H locs ht1 hvm1 hpx1 hB1 hz1 hk1 hS hce1 hcv1 hcl1 => ?_) (fun u1 t1 H locs ht1 hvm1 hw1 hB1 hz1 hk1 hS => ?_)
  · skip
    obtain ⟨hph, hP, hD⟩ := hB1
    rw [ht1] at hP
    exact vx_out (hex0 _) hlocks hce1 hcv1 hcl1 (XT.out hP hD hS (⟨hph.1, Or.inl hph.2⟩)) hS.2.2 (by decide) (by decide)
  obtain ⟨hP, hD⟩ := hB1
  rw [ht1] at hP
  obtain ⟨a, ha, ea⟩ := hw1
  refine lv_iload_n hx hb dX1_pay_4 rfl (lv_at hl 2 rfl) ?_
  refine vx_callv (vx_runS (As := [.int y]) (rest := []) ⟨hx, hb, hml, hown, hts⟩ (c_X1_requireHook l D ci ad z F hf ft fk fp n mk sz pl y hlt ) (va_cwS 1 hts gX1_pay_X1_requireHook rfl rfl rfl (by decide +kernel) ⟨Nat.le_of_ble_eq_true rfl, Nat.le_of_ble_eq_true rfl⟩) ⟨WD.fb, fun U hU hW => ⟨rfl, WD.call hP hD hK hE hS hU hW⟩⟩ rfl rfl hl.1 rfl (lv_room (Nat.le_of_ble_eq_true rfl)) dX1_pay_5 ⟨Nat.le_of_ble_eq_true rfl, Nat.le_of_ble_eq_true rfl⟩) hS (fun q _ h => h) (fun q h => h) (fun q _ h => h) (fun E5 ce5 qx5 u5 t5 H locs ht5 hvm5 hpx5 hB5 hz5 hk5 hS hce5 hcv5 hcl5 => ?_) (fun u5 t5 H locs ht5 hvm5 hw5 hB5 hz5 hk5 hS => ?_)
  · skip
    obtain ⟨hph, hP, hD⟩ := hB5
    rw [ht5] at hP
    exact vx_out (hex0 _) hlocks hce5 hcv5 hcl5 (XT.out hP hD hS (⟨hph.1, Or.inr (Or.inl hph.2)⟩)) hS.2.2 (by decide) (by decide)
  obtain ⟨hP, hD⟩ := hB5
  rw [ht5] at hP
  obtain ⟨b, hb8, eb⟩ := hw5
  refine lv_iload_n hx hb dX1_pay_8 rfl (lv_at hl 3 rfl) ?_
  refine vx_callv (vx_runS (As := [.int t]) (rest := []) ⟨hx, hb, hml, hown, hts⟩ (c_X1_requireHook l D ci ad z F hf ft fk fp n mk sz pl t hlt ) (va_cwS 1 hts gX1_pay_X1_requireHook rfl rfl rfl (by decide +kernel) ⟨Nat.le_of_ble_eq_true rfl, Nat.le_of_ble_eq_true rfl⟩) ⟨WD.fb, fun U hU hW => ⟨rfl, WD.call hP hD hK hE hS hU hW⟩⟩ rfl rfl hl.1 rfl (lv_room (Nat.le_of_ble_eq_true rfl)) dX1_pay_9 ⟨Nat.le_of_ble_eq_true rfl, Nat.le_of_ble_eq_true rfl⟩) hS (fun q _ h => h) (fun q h => h) (fun q _ h => h) (fun E9 ce9 qx9 u9 t9 H locs ht9 hvm9 hpx9 hB9 hz9 hk9 hS hce9 hcv9 hcl9 => ?_) (fun u9 t9 H locs ht9 hvm9 hw9 hB9 hz9 hk9 hS => ?_)
  · skip
    obtain ⟨hph, hP, hD⟩ := hB9
    rw [ht9] at hP
    exact vx_out (hex0 _) hlocks hce9 hcv9 hcl9 (XT.out hP hD hS (⟨hph.1, Or.inr (Or.inr hph.2)⟩)) hS.2.2 (by decide) (by decide)
  obtain ⟨hP, hD⟩ := hB9
  rw [ht9] at hP
  obtain ⟨d, hd8, ed⟩ := hw9
  refine lv_aload_n hx hb dX1_pay_12 rfl (lv_at hl 0 rfl) ?_
  refine va_get (D := D) (ci := 1) (C := RX1) (T := TX1) (N := 7) hx hb hts hin1 hown hK hP 0 rfl rfl 1 (by decide) (hts (.fieldLink RX1 18 "DutyRota" "hooks" "[LDutyRota$Sheet;") (by decide +kernel)) (fun _ h9 => h9) rfl dX1_pay_13 ?_
  refine lv_iload_n hx hb dX1_pay_16 rfl (lv_at hl 1 rfl) ?_
  refine rw_rld hx hb hK hP 1 2 rfl rfl (j := a) (ea) (ha) (by decide) rfl dX1_pay_17 ?_
  refine lv_astore (lv' := [(4, .ref (ad (10 + (hf a)))), (0, .ref (ad 0)), (1, .int x), (2, .int y), (3, .int t)]) hx hb dX1_pay_18 hl (by decide) rfl (fun ls hl => ?_)
  refine lv_aload_n hx hb dX1_pay_20 rfl (lv_at hl 1 rfl) ?_
  refine va_get (D := D) (ci := 1) (C := RX1) (T := TX1) (N := 7) hx hb hts hin1 hown hK hP 0 rfl rfl 1 (by decide) (hts (.fieldLink RX1 18 "DutyRota" "hooks" "[LDutyRota$Sheet;") (by decide +kernel)) (fun _ h9 => h9) rfl dX1_pay_21 ?_
  refine lv_iload_n hx hb dX1_pay_24 rfl (lv_at hl 3 rfl) ?_
  refine rw_rld hx hb hK hP 1 2 rfl rfl (j := b) (eb) (hb8) (by decide) rfl dX1_pay_25 ?_
  refine lv_astore (lv' := [(5, .ref (ad (10 + (hf b)))), (4, .ref (ad (10 + (hf a)))), (0, .ref (ad 0)), (1, .int x), (2, .int y), (3, .int t)]) hx hb dX1_pay_26 hl (by decide) rfl (fun ls hl => ?_)
  refine lv_aload_n hx hb dX1_pay_28 rfl (lv_at hl 2 rfl) ?_
  refine va_get (D := D) (ci := 1) (C := RX1) (T := TX1) (N := 7) hx hb hts hin1 hown hK hP 0 rfl rfl 1 (by decide) (hts (.fieldLink RX1 18 "DutyRota" "hooks" "[LDutyRota$Sheet;") (by decide +kernel)) (fun _ h9 => h9) rfl dX1_pay_29 ?_
  refine lv_iload_n hx hb dX1_pay_32 rfl (lv_at hl 5 rfl) ?_
  refine rw_rld hx hb hK hP 1 2 rfl rfl (j := d) (ed) (hd8) (by decide) rfl dX1_pay_33 ?_
  refine lv_astore (lv' := [(6, .ref (ad (10 + (hf d)))), (5, .ref (ad (10 + (hf b)))), (4, .ref (ad (10 + (hf a)))), (0, .ref (ad 0)), (1, .int x), (2, .int y), (3, .int t)]) hx hb dX1_pay_34 hl (by decide) rfl (fun ls hl => ?_)
  refine lv_aload hx hb dX1_pay_36 (lv_at hl 2 rfl) ?_
  refine lv_iconst (v := 0) hx hb dX1_pay_38 (by decide) ?_
  refine vp_callSi (W.runS (As := [.ref (ad (10 + (hf a))), .int 0]) (rest := []) ⟨hx, hb, hml, hown, hts⟩ (c_X1_isForeign l D ci ad z F hf ft fk fp n mk sz pl (hf a) 0 (hHF a ha)) (va_cwS 2 hts gX1_pay_X1_isForeign rfl rfl rfl (by decide +kernel) ⟨Nat.le_of_ble_eq_true rfl, Nat.le_of_ble_eq_true rfl⟩) ⟨WD.fb, fun U hU hW => ⟨rfl, WD.call hP hD hK hE hS hU hW⟩⟩ rfl rfl hl.1 rfl (lv_room (Nat.le_of_ble_eq_true rfl)) dX1_pay_39 ⟨Nat.le_of_ble_eq_true rfl, Nat.le_of_ble_eq_true rfl⟩) (fun r39 hw39 => ?_)
  rcases hw39 with ⟨rfl, h39⟩ | ⟨rfl, h39⟩
  · skip
    refine lv_if_ne (tgt := 63) hx hb dX1_pay_42 (by decide) (fun c42 => ?_) (fun c42 => absurd c42 (by decide))
    refine lv_iconst (v := 2) hx hb dX1_pay_63 (by decide) ?_
    refine vx_ret ?_
    exact W.iret (v := 2) hx hb hr (fun t ht _ => ⟨⟨_, (fp), rfl, ⟨a, b, d, ha, hb8, hd8, ea, eb, ed, Or.inl ⟨Or.inl h39, rfl, rfl⟩⟩, by rw [ht]; exact hP, hD⟩, hS.F ht⟩) hS.2.2 dX1_pay_64
  · skip
    refine lv_if_ne (tgt := 63) hx hb dX1_pay_42 (by decide) (fun c42 => absurd c42 (by decide)) (fun c42 => ?_)
    refine lv_aload hx hb dX1_pay_45 (lv_at hl 1 rfl) ?_
    refine lv_iconst (v := 3) hx hb dX1_pay_47 (by decide) ?_
    refine vp_callSi (W.runS (As := [.ref (ad (10 + (hf b))), .int 3]) (rest := []) ⟨hx, hb, hml, hown, hts⟩ (c_X1_isForeign l D ci ad z F hf ft fk fp n mk sz pl (hf b) 3 (hHF b hb8)) (va_cwS 2 hts gX1_pay_X1_isForeign rfl rfl rfl (by decide +kernel) ⟨Nat.le_of_ble_eq_true rfl, Nat.le_of_ble_eq_true rfl⟩) ⟨WD.fb, fun U hU hW => ⟨rfl, WD.call hP hD hK hE hS hU hW⟩⟩ rfl rfl hl.1 rfl (lv_room (Nat.le_of_ble_eq_true rfl)) dX1_pay_48 ⟨Nat.le_of_ble_eq_true rfl, Nat.le_of_ble_eq_true rfl⟩) (fun r48 hw48 => ?_)
    rcases hw48 with ⟨rfl, h48⟩ | ⟨rfl, h48⟩
    · skip
      refine lv_if_ne (tgt := 63) hx hb dX1_pay_51 (by decide) (fun c51 => ?_) (fun c51 => absurd c51 (by decide))
      refine lv_iconst (v := 2) hx hb dX1_pay_63 (by decide) ?_
      refine vx_ret ?_
      exact W.iret (v := 2) hx hb hr (fun t ht _ => ⟨⟨_, (fp), rfl, ⟨a, b, d, ha, hb8, hd8, ea, eb, ed, Or.inl ⟨Or.inr (Or.inl h48), rfl, rfl⟩⟩, by rw [ht]; exact hP, hD⟩, hS.F ht⟩) hS.2.2 dX1_pay_64
    · skip
      refine lv_if_ne (tgt := 63) hx hb dX1_pay_51 (by decide) (fun c51 => absurd c51 (by decide)) (fun c51 => ?_)
      refine lv_aload hx hb dX1_pay_54 (lv_at hl 0 rfl) ?_
      refine lv_iconst (v := 4) hx hb dX1_pay_56 (by decide) ?_
      refine vp_callSi (W.runS (As := [.ref (ad (10 + (hf d))), .int 4]) (rest := []) ⟨hx, hb, hml, hown, hts⟩ (c_X1_isForeign l D ci ad z F hf ft fk fp n mk sz pl (hf d) 4 (hHF d hd8)) (va_cwS 2 hts gX1_pay_X1_isForeign rfl rfl rfl (by decide +kernel) ⟨Nat.le_of_ble_eq_true rfl, Nat.le_of_ble_eq_true rfl⟩) ⟨WD.fb, fun U hU hW => ⟨rfl, WD.call hP hD hK hE hS hU hW⟩⟩ rfl rfl hl.1 rfl (lv_room (Nat.le_of_ble_eq_true rfl)) dX1_pay_57 ⟨Nat.le_of_ble_eq_true rfl, Nat.le_of_ble_eq_true rfl⟩) (fun r57 hw57 => ?_)
      rcases hw57 with ⟨rfl, h57⟩ | ⟨rfl, h57⟩
      · skip
        refine lv_if_eq (tgt := 65) hx hb dX1_pay_60 (by decide) (fun c60 => absurd c60 (by decide)) (fun c60 => ?_)
        refine lv_iconst (v := 2) hx hb dX1_pay_63 (by decide) ?_
        refine vx_ret ?_
        exact W.iret (v := 2) hx hb hr (fun t ht _ => ⟨⟨_, (fp), rfl, ⟨a, b, d, ha, hb8, hd8, ea, eb, ed, Or.inl ⟨Or.inr (Or.inr h57), rfl, rfl⟩⟩, by rw [ht]; exact hP, hD⟩, hS.F ht⟩) hS.2.2 dX1_pay_64
      · skip
        refine lv_if_eq (tgt := 65) hx hb dX1_pay_60 (by decide) (fun c60 => ?_) (fun c60 => absurd c60 (by decide))
        refine lv_aload hx hb dX1_pay_65 (lv_at hl 2 rfl) ?_
        refine vp_callSi (toCR (va_runVN (As := []) (rest := []) ⟨hx, hb, hml, hown, hts⟩ (c_X0_isNothing l D ci ad z F hf ft fk fp n mk sz pl (hf a)  (hHF a ha) ) ⟨va_cnB 0 hts gX1_pay_X0_isNothing_n67 rfl rfl rfl (hE.nM (by decide +kernel)) (hts (.initialized RX0) (by decide +kernel)) (by decide +kernel) ⟨Nat.le_of_ble_eq_true rfl, Nat.le_of_ble_eq_true rfl⟩, hts (.instanceMethod yX0_isNothing) (by decide +kernel), hts (.selects RX0 yX0_isNothing yX0_isNothing) (by decide +kernel)⟩ ⟨WD.fb, (va_recv hK hP (ci := 0) (q0 := 6 + (hf a)) rfl (wC_sh (hHF a ha))), fun U hU hW => ⟨rfl, WD.call hP hD hK hE hS hU hW⟩⟩ rfl rfl hl.1 rfl (lv_room (Nat.le_of_ble_eq_true rfl)) dX1_pay_67 ⟨Nat.le_of_ble_eq_true rfl, Nat.le_of_ble_eq_true rfl⟩)) (fun r67 hw67 => ?_)
        rcases hw67 with ⟨rfl, h67⟩ | ⟨rfl, h67⟩
        · skip
          refine lv_if_ne (tgt := 89) hx hb dX1_pay_70 (by decide) (fun c70 => ?_) (fun c70 => absurd c70 (by decide))
          refine lv_iconst (v := 1) hx hb dX1_pay_89 (by decide) ?_
          refine vx_ret ?_
          exact W.iret (v := 1) hx hb hr (fun t ht _ => ⟨⟨_, (fp), rfl, ⟨a, b, d, ha, hb8, hd8, ea, eb, ed, Or.inr ⟨fun h => h.elim h39 (fun h => h.elim h48 h57), Or.inl ⟨Or.inl h67, rfl, rfl⟩⟩⟩, by rw [ht]; exact hP, hD⟩, hS.F ht⟩) hS.2.2 dX1_pay_90
        · skip
          refine lv_if_ne (tgt := 89) hx hb dX1_pay_70 (by decide) (fun c70 => absurd c70 (by decide)) (fun c70 => ?_)
          refine lv_aload hx hb dX1_pay_73 (lv_at hl 1 rfl) ?_
          refine vp_callSi (toCR (va_runVN (As := []) (rest := []) ⟨hx, hb, hml, hown, hts⟩ (c_X0_isNothing l D ci ad z F hf ft fk fp n mk sz pl (hf b)  (hHF b hb8) ) ⟨va_cnB 0 hts gX1_pay_X0_isNothing_n67 rfl rfl rfl (hE.nM (by decide +kernel)) (hts (.initialized RX0) (by decide +kernel)) (by decide +kernel) ⟨Nat.le_of_ble_eq_true rfl, Nat.le_of_ble_eq_true rfl⟩, hts (.instanceMethod yX0_isNothing) (by decide +kernel), hts (.selects RX0 yX0_isNothing yX0_isNothing) (by decide +kernel)⟩ ⟨WD.fb, (va_recv hK hP (ci := 0) (q0 := 6 + (hf b)) rfl (wC_sh (hHF b hb8))), fun U hU hW => ⟨rfl, WD.call hP hD hK hE hS hU hW⟩⟩ rfl rfl hl.1 rfl (lv_room (Nat.le_of_ble_eq_true rfl)) dX1_pay_75 ⟨Nat.le_of_ble_eq_true rfl, Nat.le_of_ble_eq_true rfl⟩)) (fun r75 hw75 => ?_)
          rcases hw75 with ⟨rfl, h75⟩ | ⟨rfl, h75⟩
          · skip
            refine lv_if_ne (tgt := 89) hx hb dX1_pay_78 (by decide) (fun c78 => ?_) (fun c78 => absurd c78 (by decide))
            refine lv_iconst (v := 1) hx hb dX1_pay_89 (by decide) ?_
            refine vx_ret ?_
            exact W.iret (v := 1) hx hb hr (fun t ht _ => ⟨⟨_, (fp), rfl, ⟨a, b, d, ha, hb8, hd8, ea, eb, ed, Or.inr ⟨fun h => h.elim h39 (fun h => h.elim h48 h57), Or.inl ⟨Or.inr (Or.inl h75), rfl, rfl⟩⟩⟩, by rw [ht]; exact hP, hD⟩, hS.F ht⟩) hS.2.2 dX1_pay_90
          · skip
            refine lv_if_ne (tgt := 89) hx hb dX1_pay_78 (by decide) (fun c78 => absurd c78 (by decide)) (fun c78 => ?_)
            refine lv_aload hx hb dX1_pay_81 (lv_at hl 0 rfl) ?_
            refine vp_callSi (toCR (va_runVN (As := []) (rest := []) ⟨hx, hb, hml, hown, hts⟩ (c_X0_isNothing l D ci ad z F hf ft fk fp n mk sz pl (hf d)  (hHF d hd8) ) ⟨va_cnB 0 hts gX1_pay_X0_isNothing_n67 rfl rfl rfl (hE.nM (by decide +kernel)) (hts (.initialized RX0) (by decide +kernel)) (by decide +kernel) ⟨Nat.le_of_ble_eq_true rfl, Nat.le_of_ble_eq_true rfl⟩, hts (.instanceMethod yX0_isNothing) (by decide +kernel), hts (.selects RX0 yX0_isNothing yX0_isNothing) (by decide +kernel)⟩ ⟨WD.fb, (va_recv hK hP (ci := 0) (q0 := 6 + (hf d)) rfl (wC_sh (hHF d hd8))), fun U hU hW => ⟨rfl, WD.call hP hD hK hE hS hU hW⟩⟩ rfl rfl hl.1 rfl (lv_room (Nat.le_of_ble_eq_true rfl)) dX1_pay_83 ⟨Nat.le_of_ble_eq_true rfl, Nat.le_of_ble_eq_true rfl⟩)) (fun r83 hw83 => ?_)
            rcases hw83 with ⟨rfl, h83⟩ | ⟨rfl, h83⟩
            · skip
              refine lv_if_eq (tgt := 91) hx hb dX1_pay_86 (by decide) (fun c86 => absurd c86 (by decide)) (fun c86 => ?_)
              refine lv_iconst (v := 1) hx hb dX1_pay_89 (by decide) ?_
              refine vx_ret ?_
              exact W.iret (v := 1) hx hb hr (fun t ht _ => ⟨⟨_, (fp), rfl, ⟨a, b, d, ha, hb8, hd8, ea, eb, ed, Or.inr ⟨fun h => h.elim h39 (fun h => h.elim h48 h57), Or.inl ⟨Or.inr (Or.inr h83), rfl, rfl⟩⟩⟩, by rw [ht]; exact hP, hD⟩, hS.F ht⟩) hS.2.2 dX1_pay_90
            · skip
              refine lv_if_eq (tgt := 91) hx hb dX1_pay_86 (by decide) (fun c86 => ?_) (fun c86 => absurd c86 (by decide))
              have hsa := hSZ _ (hHF a ha)
              have hsb := hSZ _ (hHF b hb8)
              have hsd := hSZ _ (hHF d hd8)
              have hno1 : ¬ ((¬ mk (hf a) = 6 ∧ ¬ fam (mk (hf a)) = 0) ∨ (¬ mk (hf b) = 6 ∧ ¬ fam (mk (hf b)) = 3) ∨ (¬ mk (hf d) = 6 ∧ ¬ fam (mk (hf d)) = 4)) := fun h => h.elim h39 (fun h => h.elim h48 h57)
              have hno2 : ¬ (mk (hf a) = 6 ∨ mk (hf b) = 6 ∨ mk (hf d) = 6) := fun h => h.elim h67 (fun h => h.elim h75 h83)
              have h9a : hf a < 9 := ne9 h9m (hHF a ha) h67
              have h9b : hf b < 9 := ne9 h9m (hHF b hb8) h75
              have h9d : hf d < 9 := ne9 h9m (hHF d hd8) h83
              refine lv_iconst (v := 0) hx hb dX1_pay_91 (by decide) ?_
              refine lv_istore (lv' := [(7, .int 0), (6, .ref (ad (10 + (hf d)))), (5, .ref (ad (10 + (hf b)))), (4, .ref (ad (10 + (hf a)))), (0, .ref (ad 0)), (1, .int x), (2, .int y), (3, .int t)]) hx hb dX1_pay_92 hl (by decide) rfl (fun ls hl => ?_)
              have loop94 : ∀ (d94 : Nat) (q : Nat) (fp1 : Nat → Int64) (hd94 : sz (hf a) + 1 ≤ q + d94) (hq : q ≤ sz (hf a)) (hin : ∀ p, p < q → p < sz (hf b) ∧ p < sz (hf d)) (hfp : fp1 = paid fk n (pl (hf a)) (pl (hf b)) (pl (hf d)) fp q) (H : Heap) (locs : List Loc) (hP : va_P D vwCl (wC ci ad hf ft fk fp1 n mk sz pl ++ F) H) (hD : va_D (LA z) (wC ci ad hf ft fk fp1 n mk sz pl ++ F)) (hS : va_S (LA z) s.heap H locs) (ls : Array Slot) (hl : lv_has ls 8 [(7, .int (nI q)), (6, .ref (ad (10 + (hf d)))), (5, .ref (ad (10 + (hf b)))), (4, .ref (ad (10 + (hf a)))), (0, .ref (ad 0)), (1, .int x), (2, .int y), (3, .int t)]), W p l e ({ frames := 7, cells := 3, slots := 18, locals := 110 } : Room) s m ([.ref (ad 0), .int x, .int y, .int t] : List Value).toArray below meth c H locs 3 18 (vx_MQ below (va_Qi (fun (r : Int32) (u : Nat → Int64) => ∃ a b d, a < 8 ∧ b < 8 ∧ d < 8 ∧ x = nI a ∧ y = nI b ∧ t = nI d ∧ payP (mk (hf a)) (mk (hf b)) (mk (hf d)) (sz (hf a)) (sz (hf b)) (sz (hf d)) (pl (hf a)) (pl (hf b)) (pl (hf d)) fk n fp r u) (fun u t => va_P D vwCl (wC ci ad hf ft fk u n mk sz pl ++ F) t.heap ∧ va_D (LA z) (wC ci ad hf ft fk u n mk sz pl ++ F)) (LA z)) (XT D z (wC ci ad hf ft fk fp n mk sz pl ++ F) (fun E => E = iaeN ∧ (badH x ∨ badH y ∨ badH t))) ([.ref (ad 0), .int x, .int y, .int t] : List Value).toArray s 3 18 (LA z)) (F0 m 94 ls []) := by
                intro d94
                induction d94 with
                | zero => intro q fp1 hd94 hq hin hfp H locs hP hD hS ls hl; exact absurd hd94 (by omega)
                | succ d94 ih94 =>
                  intro q fp1 hd94 hq hin hfp H locs hP hD hS ls hl
                  refine lv_iload hx hb dX1_pay_94 (lv_at hl 0 rfl) ?_
                  refine lv_aload hx hb dX1_pay_96 (lv_at hl 3 rfl) ?_
                  refine va_getN (D := D) (ci := 0) (C := RX0) (T := TX0) (N := 3) hx hb hts hin0 hown hK hP (6 + (hf a)) (wC_sh (hHF a ha)) rfl 2 (by decide) (hE.nF (by decide +kernel)) (fun _ h9 => h9) rfl dX1_pay_98 ?_
                  refine lv_icmp_ge (tgt := 160) hx hb dX1_pay_101 (by decide) (fun c101 => ?_) (fun c101 => ?_)
                  · skip
                    have hqS : q = sz (hf a) := by have := nI_ge_of c101 (by omega) (by omega); omega
                    refine lv_iconst (v := 0) hx hb dX1_pay_160 (by decide) ?_
                    refine vx_ret ?_
                    exact W.iret (v := 0) hx hb hr (fun t ht _ => ⟨⟨_, (fp1), rfl, ⟨a, b, d, ha, hb8, hd8, ea, eb, ed, Or.inr ⟨hno1, Or.inr ⟨hno2, q, hq, hin, hfp, Or.inl ⟨hqS, rfl⟩⟩⟩⟩, by rw [ht]; exact hP, hD⟩, hS.F ht⟩) hS.2.2 dX1_pay_161
                  · skip
                    have hqS : q < sz (hf a) := nI_lt_of c101 (by omega) (by omega)
                    refine lv_aload hx hb dX1_pay_104 (lv_at hl 2 rfl) ?_
                    refine lv_iload hx hb dX1_pay_106 (lv_at hl 0 rfl) ?_
                    refine vp_callSi (toCR (va_runVN (As := [.int (nI q)]) (rest := []) ⟨hx, hb, hml, hown, hts⟩ (c_X0_hasPlace l D ci ad z F hf ft fk fp1 n mk sz pl (hf b) (nI q) (hHF b hb8) hsb) ⟨va_cnB 1 hts gX1_pay_X0_hasPlace_n74 rfl rfl rfl (hE.nM (by decide +kernel)) (hts (.initialized RX0) (by decide +kernel)) (by decide +kernel) ⟨Nat.le_of_ble_eq_true rfl, Nat.le_of_ble_eq_true rfl⟩, hts (.instanceMethod yX0_hasPlace) (by decide +kernel), hts (.selects RX0 yX0_hasPlace yX0_hasPlace) (by decide +kernel)⟩ ⟨WD.fb, (va_recv hK hP (ci := 0) (q0 := 6 + (hf b)) rfl (wC_sh (hHF b hb8))), fun U hU hW => ⟨rfl, WD.call hP hD hK hE hS hU hW⟩⟩ rfl rfl hl.1 rfl (lv_room (Nat.le_of_ble_eq_true rfl)) dX1_pay_108 ⟨Nat.le_of_ble_eq_true rfl, Nat.le_of_ble_eq_true rfl⟩)) (fun r108 hw108 => ?_)
                    rcases hw108 with ⟨rfl, h108⟩ | ⟨rfl, h108⟩
                    · skip
                      obtain ⟨kb, hkb, ekb⟩ := h108
                      have hqb : q < sz (hf b) := by have := nI_inj (by omega) (by omega) ekb; omega
                      refine lv_if_eq (tgt := 124) hx hb dX1_pay_111 (by decide) (fun c111 => absurd c111 (by decide)) (fun c111 => ?_)
                      refine lv_aload hx hb dX1_pay_114 (lv_at hl 1 rfl) ?_
                      refine lv_iload hx hb dX1_pay_116 (lv_at hl 0 rfl) ?_
                      refine vp_callSi (toCR (va_runVN (As := [.int (nI q)]) (rest := []) ⟨hx, hb, hml, hown, hts⟩ (c_X0_hasPlace l D ci ad z F hf ft fk fp1 n mk sz pl (hf d) (nI q) (hHF d hd8) hsd) ⟨va_cnB 1 hts gX1_pay_X0_hasPlace_n74 rfl rfl rfl (hE.nM (by decide +kernel)) (hts (.initialized RX0) (by decide +kernel)) (by decide +kernel) ⟨Nat.le_of_ble_eq_true rfl, Nat.le_of_ble_eq_true rfl⟩, hts (.instanceMethod yX0_hasPlace) (by decide +kernel), hts (.selects RX0 yX0_hasPlace yX0_hasPlace) (by decide +kernel)⟩ ⟨WD.fb, (va_recv hK hP (ci := 0) (q0 := 6 + (hf d)) rfl (wC_sh (hHF d hd8))), fun U hU hW => ⟨rfl, WD.call hP hD hK hE hS hU hW⟩⟩ rfl rfl hl.1 rfl (lv_room (Nat.le_of_ble_eq_true rfl)) dX1_pay_118 ⟨Nat.le_of_ble_eq_true rfl, Nat.le_of_ble_eq_true rfl⟩)) (fun r118 hw118 => ?_)
                      rcases hw118 with ⟨rfl, h118⟩ | ⟨rfl, h118⟩
                      · skip
                        obtain ⟨kd, hkd, ekd⟩ := h118
                        have hqd : q < sz (hf d) := by have := nI_inj (by omega) (by omega) ekd; omega
                        refine lv_if_ne (tgt := 126) hx hb dX1_pay_121 (by decide) (fun c121 => ?_) (fun c121 => absurd c121 (by decide))
                        refine lv_aload_n hx hb dX1_pay_126 rfl (lv_at hl 4 rfl) ?_
                        refine lv_aload hx hb dX1_pay_127 (lv_at hl 3 rfl) ?_
                        refine va_getN (D := D) (ci := 0) (C := RX0) (T := TX0) (N := 3) hx hb hts hin0 hown hK hP (6 + (hf a)) (wC_sh (hHF a ha)) rfl 0 (by decide) (hE.nF (by decide +kernel)) (fun _ h9 => h9) rfl dX1_pay_129 ?_
                        refine lv_iload hx hb dX1_pay_132 (lv_at hl 0 rfl) ?_
                        refine rw_lld hx hb hK hP (16 + (hf a)) 1 (wC_pl h9a) rfl (j := q) (rfl) (by omega) (by decide) dX1_pay_134 ?_
                        refine lv_aload hx hb dX1_pay_135 (lv_at hl 2 rfl) ?_
                        refine va_getN (D := D) (ci := 0) (C := RX0) (T := TX0) (N := 3) hx hb hts hin0 hown hK hP (6 + (hf b)) (wC_sh (hHF b hb8)) rfl 0 (by decide) (hE.nF (by decide +kernel)) (fun _ h9 => h9) rfl dX1_pay_137 ?_
                        refine lv_iload hx hb dX1_pay_140 (lv_at hl 0 rfl) ?_
                        refine rw_lld hx hb hK hP (16 + (hf b)) 1 (wC_pl h9b) rfl (j := q) (rfl) (by omega) (by decide) dX1_pay_142 ?_
                        refine lv_aload hx hb dX1_pay_143 (lv_at hl 1 rfl) ?_
                        refine va_getN (D := D) (ci := 0) (C := RX0) (T := TX0) (N := 3) hx hb hts hin0 hown hK hP (6 + (hf d)) (wC_sh (hHF d hd8)) rfl 0 (by decide) (hE.nF (by decide +kernel)) (fun _ h9 => h9) rfl dX1_pay_145 ?_
                        refine lv_iload hx hb dX1_pay_148 (lv_at hl 0 rfl) ?_
                        refine rw_lld hx hb hK hP (16 + (hf d)) 1 (wC_pl h9d) rfl (j := q) (rfl) (by omega) (by decide) dX1_pay_150 ?_
                        refine va_callv (va_runV (As := [.long ((pl (hf a)) q), .long ((pl (hf b)) q), .long ((pl (hf d)) q)]) (rest := []) ⟨hx, hb, hml, hown, hts⟩ (c_X1_fillPurse l D ci ad z F hf ft fk fp1 n mk sz pl ((pl (hf a)) q) ((pl (hf b)) q) ((pl (hf d)) q) hN hKD) (cwV 3 hts gX1_pay_X1_fillPurse rfl rfl rfl (by decide +kernel) ⟨Nat.le_of_ble_eq_true rfl, Nat.le_of_ble_eq_true rfl⟩) ⟨WD.fb, (va_recv hK hP (ci := 1) (q0 := 0) rfl rfl), fun U hU hW => ⟨rfl, WD.call hP hD hK hE hS hU hW⟩⟩ rfl rfl hl.1 rfl (lv_room (Nat.le_of_ble_eq_true rfl)) dX1_pay_151 ⟨Nat.le_of_ble_eq_true rfl, Nat.le_of_ble_eq_true rfl⟩) hS (fun q _ h => h) (fun q h => h) (fun u151 t151 H locs ht151 hvm151 hw151 hB151 hz151 hk151 hS => ?_)
                        obtain ⟨hP, hD⟩ := hB151
                        rw [ht151] at hP
                        refine lv_iinc (v := (nI (q + 1))) (lv' := [(7, .int (nI (q + 1))), (6, .ref (ad (10 + (hf d)))), (5, .ref (ad (10 + (hf b)))), (4, .ref (ad (10 + (hf a)))), (0, .ref (ad 0)), (1, .int x), (2, .int y), (3, .int t)]) hx hb dX1_pay_154 hl (k := 0) rfl (nI_1 _) (by decide) rfl (fun ls hl => ?_)
                        refine lv_goto (tgt := 94) hx hb dX1_pay_157 (by decide) ?_
                        exact ih94 (q + 1) u151 (by omega) (by omega) (lt_s hin ⟨hqb, hqd⟩) (by rw [hw151, hfp]; rfl) H locs hP hD hS ls (lv_sub hl [0, 1, 2, 3, 4, 5, 6, 7] rfl)
                      · skip
                        have hqd : sz (hf d) ≤ q := pl_ge (by omega) (by omega) h118
                        refine lv_if_ne (tgt := 126) hx hb dX1_pay_121 (by decide) (fun c121 => absurd c121 (by decide)) (fun c121 => ?_)
                        refine lv_iconst (v := 3) hx hb dX1_pay_124 (by decide) ?_
                        refine vx_ret ?_
                        exact W.iret (v := 3) hx hb hr (fun t ht _ => ⟨⟨_, (fp1), rfl, ⟨a, b, d, ha, hb8, hd8, ea, eb, ed, Or.inr ⟨hno1, Or.inr ⟨hno2, q, hq, hin, hfp, Or.inr ⟨hqS, by omega, rfl⟩⟩⟩⟩, by rw [ht]; exact hP, hD⟩, hS.F ht⟩) hS.2.2 dX1_pay_125
                    · skip
                      have hqb : sz (hf b) ≤ q := pl_ge (by omega) (by omega) h108
                      refine lv_if_eq (tgt := 124) hx hb dX1_pay_111 (by decide) (fun c111 => ?_) (fun c111 => absurd c111 (by decide))
                      refine lv_iconst (v := 3) hx hb dX1_pay_124 (by decide) ?_
                      refine vx_ret ?_
                      exact W.iret (v := 3) hx hb hr (fun t ht _ => ⟨⟨_, (fp1), rfl, ⟨a, b, d, ha, hb8, hd8, ea, eb, ed, Or.inr ⟨hno1, Or.inr ⟨hno2, q, hq, hin, hfp, Or.inr ⟨hqS, by omega, rfl⟩⟩⟩⟩, by rw [ht]; exact hP, hD⟩, hS.F ht⟩) hS.2.2 dX1_pay_125
              exact loop94 (sz (hf a) + 1) 0 fp (by omega) (by omega) (fun p h => absurd h (by omega)) (rfl) H locs hP hD hS ls (lv_sub hl [0, 1, 2, 3, 4, 5, 6, 7] rfl)
set_option maxHeartbeats 4000000 in
set_option maxRecDepth 100000 in
theorem c_X1_look (l : Launch) (D : va_G) (ci : Nat → ClassId) (ad : Nat → Nat) (z : Nat) (F : va_W) (hf : Nat → Nat) (ft : Nat → Int64) (fk : Nat → Int32) (fp : Nat → Int64) (n : Nat) (mk : Nat → Int32) (sz : Nat → Nat) (pl : Nat → Nat → Int64) (x w : Int32) (hlt : l.stackTraces = false) (hHF : ∀ h, h < 8 → hf h < 10) (hSZ : ∀ i, i < 10 → sz i ≤ 40) (h9s : sz 9 = 0) (h9m : mk 9 = 6) (hN : n ≤ 60) (hKD : ∀ k, k < n → ∃ q, q < 3 ∧ fk k = nI q) : vx_Met l yX1_look wsX1_look ({ frames := 7, cells := 1, slots := 6, locals := 110 }) (va_Pc [.ref (ad 0), .int x, .int w] (fun U => WD D ci ad z (wC ci ad hf ft fk fp n mk sz pl ++ F) U)) (va_Qi (fun (r : Int32) (u : Unit) => ∃ a, a < 8 ∧ x = nI a ∧ lookP (mk (hf a)) (sz (hf a)) hf a w r) (fun u t => va_P D vwCl (wC ci ad hf ft fk fp n mk sz pl ++ F) t.heap ∧ va_D (LA z) (wC ci ad hf ft fk fp n mk sz pl ++ F)) (LA z)) (XT D z (wC ci ad hf ft fk fp n mk sz pl ++ F) (fun E => E = iaeN ∧ badH x)) 1 6 (LA z) := by
  refine vx_ofW (cc := cX1_look) (maxL := 4) (ret := (some .int)) (by decide) rfl ?_
  intro p e s m args below meth c s₁ B hml hex hv
  obtain ⟨rfl, hP, hD, hK, hE⟩ := hv
  have hx := B.exec
  have hb := B.bytes
  have hr := B.returns
  have hts := atoms_spec (ws := wsX1_look) B.pre
  have hown : s.vm.findClass RX1 = some m.cls := findClass_of_methodNamed B.named
  have hlocks := B.notSynchronized
  have hS : va_S (LA z) s.heap s.heap [] := va_S.rf
  have hex0 : ∀ (j : Nat), ∀ x ∈ c.exceptionTable.toList, covers x j = false := fun _ x hx => (hex x hx).elim
  have hin0 : ∀ w ∈ wsX00, w ∈ wsX1_look := by decide +kernel
  have hin1 : ∀ w ∈ wsX10, w ∈ wsX1_look := by decide +kernel
  have hl := lv_entry ([.ref (ad 0), .int x, .int w]) (n := 4) (Nat.le_of_ble_eq_true rfl)
  rw [lg_entry_eq]
  generalize (lg_sl ([.ref (ad 0), .int x, .int w]) ++ List.replicate (4 - (lg_sl ([.ref (ad 0), .int x, .int w])).length) Slot.unset).toArray = ls at hl ⊢
  have hl : lv_has ls 4 [(0, .ref (ad 0)), (1, .int x), (2, .int w)] := hl
  refine lv_iload_n hx hb dX1_look_0 rfl (lv_at hl 1 rfl) ?_
  refine vx_callv (vx_runS (As := [.int x]) (rest := []) ⟨hx, hb, hml, hown, hts⟩ (c_X1_requireHook l D ci ad z F hf ft fk fp n mk sz pl x hlt ) (va_cwS 1 hts gX1_look_X1_requireHook rfl rfl rfl (by decide +kernel) ⟨Nat.le_of_ble_eq_true rfl, Nat.le_of_ble_eq_true rfl⟩) ⟨WD.fb, fun U hU hW => ⟨rfl, WD.call hP hD hK hE hS hU hW⟩⟩ rfl rfl hl.1 rfl (lv_room (Nat.le_of_ble_eq_true rfl)) dX1_look_1 ⟨Nat.le_of_ble_eq_true rfl, Nat.le_of_ble_eq_true rfl⟩) hS (fun q _ h => h) (fun q h => h) (fun q _ h => h) (fun E1 ce1 qx1 u1 t1 H locs ht1 hvm1 hpx1 hB1 hz1 hk1 hS hce1 hcv1 hcl1 => ?_) (fun u1 t1 H locs ht1 hvm1 hw1 hB1 hz1 hk1 hS => ?_)
  · skip
    obtain ⟨hph, hP, hD⟩ := hB1
    rw [ht1] at hP
    exact vx_out (hex0 _) hlocks hce1 hcv1 hcl1 (XT.out hP hD hS (hph)) hS.2.2 (by decide) (by decide)
  obtain ⟨hP, hD⟩ := hB1
  rw [ht1] at hP
  obtain ⟨a, ha, ea⟩ := hw1
  refine lv_aload_n hx hb dX1_look_4 rfl (lv_at hl 0 rfl) ?_
  refine va_get (D := D) (ci := 1) (C := RX1) (T := TX1) (N := 7) hx hb hts hin1 hown hK hP 0 rfl rfl 1 (by decide) (hts (.fieldLink RX1 18 "DutyRota" "hooks" "[LDutyRota$Sheet;") (by decide +kernel)) (fun _ h9 => h9) rfl dX1_look_5 ?_
  refine lv_iload_n hx hb dX1_look_8 rfl (lv_at hl 1 rfl) ?_
  refine rw_rld hx hb hK hP 1 2 rfl rfl (j := a) (ea) (ha) (by decide) rfl dX1_look_9 ?_
  refine lv_astore_n (lv' := [(3, .ref (ad (10 + (hf a)))), (0, .ref (ad 0)), (1, .int x), (2, .int w)]) hx hb dX1_look_10 rfl hl (by decide) rfl (fun ls hl => ?_)
  refine lv_iload_n hx hb dX1_look_11 rfl (lv_at hl 3 rfl) ?_
  by_cases w0 : w = 0
  · skip
    refine lv_tableIn (off := 28) (tgt := 40) hx hb dX1_look_12 (by rw [w0]; decide) (by rw [w0]; decide) (by rw [w0]; decide) (by decide) ?_
    refine lv_aload_n hx hb dX1_look_40 rfl (lv_at hl 0 rfl) ?_
    refine va_getN (D := D) (ci := 0) (C := RX0) (T := TX0) (N := 3) hx hb hts hin0 hown hK hP (6 + (hf a)) (wC_sh (hHF a ha)) rfl 1 (by decide) (hE.nF (by decide +kernel)) (fun _ h9 => h9) rfl dX1_look_41 ?_
    refine vx_ret ?_
    exact W.iret (v := (mk (hf a))) hx hb hr (fun t ht _ => ⟨⟨_, (()), rfl, ⟨a, ha, ea, Or.inl ⟨w0, rfl⟩⟩, by rw [ht]; exact hP, hD⟩, hS.F ht⟩) hS.2.2 dX1_look_44
  by_cases w1 : w = 1
  · skip
    refine lv_tableIn (off := 33) (tgt := 45) hx hb dX1_look_12 (by rw [w1]; decide) (by rw [w1]; decide) (by rw [w1]; decide) (by decide) ?_
    refine lv_aload_n hx hb dX1_look_45 rfl (lv_at hl 0 rfl) ?_
    refine vp_callSi (toCR (va_runVN (As := []) (rest := []) ⟨hx, hb, hml, hown, hts⟩ (c_X0_isRow l D ci ad z F hf ft fk fp n mk sz pl (hf a)  (hHF a ha) ) ⟨va_cnB 0 hts gX1_look_X0_isRow_n89 rfl rfl rfl (hE.nM (by decide +kernel)) (hts (.initialized RX0) (by decide +kernel)) (by decide +kernel) ⟨Nat.le_of_ble_eq_true rfl, Nat.le_of_ble_eq_true rfl⟩, hts (.instanceMethod yX0_isRow) (by decide +kernel), hts (.selects RX0 yX0_isRow yX0_isRow) (by decide +kernel)⟩ ⟨WD.fb, (va_recv hK hP (ci := 0) (q0 := 6 + (hf a)) rfl (wC_sh (hHF a ha))), fun U hU hW => ⟨rfl, WD.call hP hD hK hE hS hU hW⟩⟩ rfl rfl hl.1 rfl (lv_room (Nat.le_of_ble_eq_true rfl)) dX1_look_46 ⟨Nat.le_of_ble_eq_true rfl, Nat.le_of_ble_eq_true rfl⟩)) (fun r46 hw46 => ?_)
    rcases hw46 with ⟨rfl, h46⟩ | ⟨rfl, h46⟩
    · skip
      refine lv_if_eq (tgt := 59) hx hb dX1_look_49 (by decide) (fun c49 => absurd c49 (by decide)) (fun c49 => ?_)
      refine lv_aload_n hx hb dX1_look_52 rfl (lv_at hl 0 rfl) ?_
      refine va_getN (D := D) (ci := 0) (C := RX0) (T := TX0) (N := 3) hx hb hts hin0 hown hK hP (6 + (hf a)) (wC_sh (hHF a ha)) rfl 2 (by decide) (hE.nF (by decide +kernel)) (fun _ h9 => h9) rfl dX1_look_53 ?_
      refine lv_goto (tgt := 60) hx hb dX1_look_56 (by decide) ?_
      refine vx_ret ?_
      exact W.iret (v := (nI (sz (hf a)))) hx hb hr (fun t ht _ => ⟨⟨_, (()), rfl, ⟨a, ha, ea, Or.inr (Or.inl ⟨w1, Or.inl ⟨h46, rfl⟩⟩)⟩, by rw [ht]; exact hP, hD⟩, hS.F ht⟩) hS.2.2 dX1_look_60
    · skip
      refine lv_if_eq (tgt := 59) hx hb dX1_look_49 (by decide) (fun c49 => ?_) (fun c49 => absurd c49 (by decide))
      refine lv_iconst (v := -1) hx hb dX1_look_59 (by decide) ?_
      refine vx_ret ?_
      exact W.iret (v := (-1)) hx hb hr (fun t ht _ => ⟨⟨_, (()), rfl, ⟨a, ha, ea, Or.inr (Or.inl ⟨w1, Or.inr ⟨h46, rfl⟩⟩)⟩, by rw [ht]; exact hP, hD⟩, hS.F ht⟩) hS.2.2 dX1_look_60
  by_cases w2 : w = 2
  · skip
    refine lv_tableIn (off := 49) (tgt := 61) hx hb dX1_look_12 (by rw [w2]; decide) (by rw [w2]; decide) (by rw [w2]; decide) (by decide) ?_
    refine lv_aload_n hx hb dX1_look_61 rfl (lv_at hl 0 rfl) ?_
    refine vp_callSi (toCR (va_runVN (As := []) (rest := []) ⟨hx, hb, hml, hown, hts⟩ (c_X0_isNothing l D ci ad z F hf ft fk fp n mk sz pl (hf a)  (hHF a ha) ) ⟨va_cnB 0 hts gX1_look_X0_isNothing_n67 rfl rfl rfl (hE.nM (by decide +kernel)) (hts (.initialized RX0) (by decide +kernel)) (by decide +kernel) ⟨Nat.le_of_ble_eq_true rfl, Nat.le_of_ble_eq_true rfl⟩, hts (.instanceMethod yX0_isNothing) (by decide +kernel), hts (.selects RX0 yX0_isNothing yX0_isNothing) (by decide +kernel)⟩ ⟨WD.fb, (va_recv hK hP (ci := 0) (q0 := 6 + (hf a)) rfl (wC_sh (hHF a ha))), fun U hU hW => ⟨rfl, WD.call hP hD hK hE hS hU hW⟩⟩ rfl rfl hl.1 rfl (lv_room (Nat.le_of_ble_eq_true rfl)) dX1_look_62 ⟨Nat.le_of_ble_eq_true rfl, Nat.le_of_ble_eq_true rfl⟩)) (fun r62 hw62 => ?_)
    rcases hw62 with ⟨rfl, h62⟩ | ⟨rfl, h62⟩
    · skip
      refine lv_if_eq (tgt := 72) hx hb dX1_look_65 (by decide) (fun c65 => absurd c65 (by decide)) (fun c65 => ?_)
      refine lv_iconst (v := -1) hx hb dX1_look_68 (by decide) ?_
      refine lv_goto (tgt := 77) hx hb dX1_look_69 (by decide) ?_
      refine vx_ret ?_
      exact W.iret (v := (-1)) hx hb hr (fun t ht _ => ⟨⟨_, (()), rfl, ⟨a, ha, ea, Or.inr (Or.inr (Or.inl ⟨w2, Or.inl ⟨h62, rfl⟩⟩))⟩, by rw [ht]; exact hP, hD⟩, hS.F ht⟩) hS.2.2 dX1_look_77
    · skip
      refine lv_if_eq (tgt := 72) hx hb dX1_look_65 (by decide) (fun c65 => ?_) (fun c65 => absurd c65 (by decide))
      refine lv_aload_n hx hb dX1_look_72 rfl (lv_at hl 1 rfl) ?_
      refine lv_aload_n hx hb dX1_look_73 rfl (lv_at hl 0 rfl) ?_
      refine vp_callSi (W.runV (As := [.ref (ad (10 + (hf a)))]) (rest := []) ⟨hx, hb, hml, hown, hts⟩ (c_X1_leastHookWith l D ci ad z F hf ft fk fp n mk sz pl (hf a) (hHF a ha) hHF) (cwV 1 hts gX1_look_X1_leastHookWith rfl rfl rfl (by decide +kernel) ⟨Nat.le_of_ble_eq_true rfl, Nat.le_of_ble_eq_true rfl⟩) ⟨WD.fb, (va_recv hK hP (ci := 1) (q0 := 0) rfl rfl), fun U hU hW => ⟨rfl, WD.call hP hD hK hE hS hU hW⟩⟩ rfl rfl hl.1 rfl (lv_room (Nat.le_of_ble_eq_true rfl)) dX1_look_74 ⟨Nat.le_of_ble_eq_true rfl, Nat.le_of_ble_eq_true rfl⟩) (fun r74 hw74 => ?_)
      refine vx_ret ?_
      exact W.iret (v := r74) hx hb hr (fun t ht _ => ⟨⟨_, (()), rfl, ⟨a, ha, ea, Or.inr (Or.inr (Or.inl ⟨w2, Or.inr ⟨h62, hw74⟩⟩))⟩, by rw [ht]; exact hP, hD⟩, hS.F ht⟩) hS.2.2 dX1_look_77
  refine lv_tableOut (tgt := 78) hx hb dX1_look_12 (tab3 w0 w1 w2) (by decide) ?_
  refine lv_iconst (v := -1) hx hb dX1_look_78 (by decide) ?_
  refine vx_ret ?_
  exact W.iret (v := (-1)) hx hb hr (fun t ht _ => ⟨⟨_, (()), rfl, ⟨a, ha, ea, Or.inr (Or.inr (Or.inr ⟨w0, w1, w2, rfl⟩))⟩, by rw [ht]; exact hP, hD⟩, hS.F ht⟩) hS.2.2 dX1_look_79
set_option maxHeartbeats 4000000 in
set_option maxRecDepth 100000 in
theorem c_X1_at (l : Launch) (D : va_G) (ci : Nat → ClassId) (ad : Nat → Nat) (z : Nat) (F : va_W) (hf : Nat → Nat) (ft : Nat → Int64) (fk : Nat → Int32) (fp : Nat → Int64) (n : Nat) (mk : Nat → Int32) (sz : Nat → Nat) (pl : Nat → Nat → Int64) (x i : Int32) (hlt : l.stackTraces = false) (hHF : ∀ h, h < 8 → hf h < 10) (hSZ : ∀ i, i < 10 → sz i ≤ 40) (h9s : sz 9 = 0) (h9m : mk 9 = 6) (hN : n ≤ 60) (hKD : ∀ k, k < n → ∃ q, q < 3 ∧ fk k = nI q) : vx_Met l yX1_at wsX1_at ({ frames := 7, cells := 2, slots := 12, locals := 110 }) (va_Pc [.ref (ad 0), .int x, .int i] (fun U => WD D ci ad z (wC ci ad hf ft fk fp n mk sz pl ++ F) U)) (va_Ql (fun (r : Int64) (u : Unit) => ∃ a k, a < 8 ∧ x = nI a ∧ mk (hf a) ≤ 4 ∧ k < sz (hf a) ∧ i = nI k ∧ r = pl (hf a) k) (fun u t => va_P D vwCl (wC ci ad hf ft fk fp n mk sz pl ++ F) t.heap ∧ va_D (LA z) (wC ci ad hf ft fk fp n mk sz pl ++ F)) (LA z)) (XT D z (wC ci ad hf ft fk fp n mk sz pl ++ F) (fun E => (E = iaeN ∧ badH x) ∨ (E = nsN ∧ ∃ a, a < 8 ∧ x = nI a ∧ (¬ mk (hf a) ≤ 4 ∨ i < 0 ∨ nI (sz (hf a)) ≤ i)))) 2 12 (LA z) := by
  refine vx_ofW (cc := cX1_at) (maxL := 4) (ret := (some .long)) (by decide) rfl ?_
  intro p e s m args below meth c s₁ B hml hex hv
  obtain ⟨rfl, hP, hD, hK, hE⟩ := hv
  have hx := B.exec
  have hb := B.bytes
  have hr := B.returns
  have hts := atoms_spec (ws := wsX1_at) B.pre
  have hown : s.vm.findClass RX1 = some m.cls := findClass_of_methodNamed B.named
  have hlocks := B.notSynchronized
  have hS : va_S (LA z) s.heap s.heap [] := va_S.rf
  have hex0 : ∀ (j : Nat), ∀ x ∈ c.exceptionTable.toList, covers x j = false := fun _ x hx => (hex x hx).elim
  have hin0 : ∀ w ∈ wsX00, w ∈ wsX1_at := by decide +kernel
  have hin1 : ∀ w ∈ wsX10, w ∈ wsX1_at := by decide +kernel
  have hl := lv_entry ([.ref (ad 0), .int x, .int i]) (n := 4) (Nat.le_of_ble_eq_true rfl)
  rw [lg_entry_eq]
  generalize (lg_sl ([.ref (ad 0), .int x, .int i]) ++ List.replicate (4 - (lg_sl ([.ref (ad 0), .int x, .int i])).length) Slot.unset).toArray = ls at hl ⊢
  have hl : lv_has ls 4 [(0, .ref (ad 0)), (1, .int x), (2, .int i)] := hl
  refine lv_iload_n hx hb dX1_at_0 rfl (lv_at hl 1 rfl) ?_
  refine vx_callv (vx_runS (As := [.int x]) (rest := []) ⟨hx, hb, hml, hown, hts⟩ (c_X1_requireHook l D ci ad z F hf ft fk fp n mk sz pl x hlt ) (va_cwS 1 hts gX1_at_X1_requireHook rfl rfl rfl (by decide +kernel) ⟨Nat.le_of_ble_eq_true rfl, Nat.le_of_ble_eq_true rfl⟩) ⟨WD.fb, fun U hU hW => ⟨rfl, WD.call hP hD hK hE hS hU hW⟩⟩ rfl rfl hl.1 rfl (lv_room (Nat.le_of_ble_eq_true rfl)) dX1_at_1 ⟨Nat.le_of_ble_eq_true rfl, Nat.le_of_ble_eq_true rfl⟩) hS (fun q _ h => h) (fun q h => h) (fun q _ h => h) (fun E1 ce1 qx1 u1 t1 H locs ht1 hvm1 hpx1 hB1 hz1 hk1 hS hce1 hcv1 hcl1 => ?_) (fun u1 t1 H locs ht1 hvm1 hw1 hB1 hz1 hk1 hS => ?_)
  · skip
    obtain ⟨hph, hP, hD⟩ := hB1
    rw [ht1] at hP
    exact vx_out (hex0 _) hlocks hce1 hcv1 hcl1 (XT.out hP hD hS (Or.inl hph)) hS.2.2 (by decide) (by decide)
  obtain ⟨hP, hD⟩ := hB1
  rw [ht1] at hP
  obtain ⟨a, ha, ea⟩ := hw1
  refine lv_aload_n hx hb dX1_at_4 rfl (lv_at hl 0 rfl) ?_
  refine va_get (D := D) (ci := 1) (C := RX1) (T := TX1) (N := 7) hx hb hts hin1 hown hK hP 0 rfl rfl 1 (by decide) (hts (.fieldLink RX1 18 "DutyRota" "hooks" "[LDutyRota$Sheet;") (by decide +kernel)) (fun _ h9 => h9) rfl dX1_at_5 ?_
  refine lv_iload_n hx hb dX1_at_8 rfl (lv_at hl 1 rfl) ?_
  refine rw_rld hx hb hK hP 1 2 rfl rfl (j := a) (ea) (ha) (by decide) rfl dX1_at_9 ?_
  refine lv_astore_n (lv' := [(3, .ref (ad (10 + (hf a)))), (0, .ref (ad 0)), (1, .int x), (2, .int i)]) hx hb dX1_at_10 rfl hl (by decide) rfl (fun ls hl => ?_)
  refine lv_aload_n hx hb dX1_at_11 rfl (lv_at hl 0 rfl) ?_
  refine vp_callSi (toCR (va_runVN (As := []) (rest := []) ⟨hx, hb, hml, hown, hts⟩ (c_X0_isRow l D ci ad z F hf ft fk fp n mk sz pl (hf a)  (hHF a ha) ) ⟨va_cnB 0 hts gX1_at_X0_isRow_n89 rfl rfl rfl (hE.nM (by decide +kernel)) (hts (.initialized RX0) (by decide +kernel)) (by decide +kernel) ⟨Nat.le_of_ble_eq_true rfl, Nat.le_of_ble_eq_true rfl⟩, hts (.instanceMethod yX0_isRow) (by decide +kernel), hts (.selects RX0 yX0_isRow yX0_isRow) (by decide +kernel)⟩ ⟨WD.fb, (va_recv hK hP (ci := 0) (q0 := 6 + (hf a)) rfl (wC_sh (hHF a ha))), fun U hU hW => ⟨rfl, WD.call hP hD hK hE hS hU hW⟩⟩ rfl rfl hl.1 rfl (lv_room (Nat.le_of_ble_eq_true rfl)) dX1_at_12 ⟨Nat.le_of_ble_eq_true rfl, Nat.le_of_ble_eq_true rfl⟩)) (fun r12 hw12 => ?_)
  rcases hw12 with ⟨rfl, h12⟩ | ⟨rfl, h12⟩
  · skip
    refine lv_if_eq (tgt := 26) hx hb dX1_at_15 (by decide) (fun c15 => absurd c15 (by decide)) (fun c15 => ?_)
    refine lv_aload_n hx hb dX1_at_18 rfl (lv_at hl 0 rfl) ?_
    refine lv_iload_n hx hb dX1_at_19 rfl (lv_at hl 3 rfl) ?_
    refine vp_callSi (toCR (va_runVN (As := [.int i]) (rest := []) ⟨hx, hb, hml, hown, hts⟩ (c_X0_hasPlace l D ci ad z F hf ft fk fp n mk sz pl (hf a) i (hHF a ha) (hSZ _ (hHF a ha))) ⟨va_cnB 1 hts gX1_at_X0_hasPlace_n74 rfl rfl rfl (hE.nM (by decide +kernel)) (hts (.initialized RX0) (by decide +kernel)) (by decide +kernel) ⟨Nat.le_of_ble_eq_true rfl, Nat.le_of_ble_eq_true rfl⟩, hts (.instanceMethod yX0_hasPlace) (by decide +kernel), hts (.selects RX0 yX0_hasPlace yX0_hasPlace) (by decide +kernel)⟩ ⟨WD.fb, (va_recv hK hP (ci := 0) (q0 := 6 + (hf a)) rfl (wC_sh (hHF a ha))), fun U hU hW => ⟨rfl, WD.call hP hD hK hE hS hU hW⟩⟩ rfl rfl hl.1 rfl (lv_room (Nat.le_of_ble_eq_true rfl)) dX1_at_20 ⟨Nat.le_of_ble_eq_true rfl, Nat.le_of_ble_eq_true rfl⟩)) (fun r20 hw20 => ?_)
    rcases hw20 with ⟨rfl, h20⟩ | ⟨rfl, h20⟩
    · skip
      obtain ⟨k, hk, ek⟩ := h20
      have h9 : hf a < 9 := lt9 h9s (hHF a ha) hk
      have hs40 := hSZ _ (hHF a ha)
      refine lv_if_ne (tgt := 36) hx hb dX1_at_23 (by decide) (fun c23 => ?_) (fun c23 => absurd c23 (by decide))
      refine lv_aload_n hx hb dX1_at_36 rfl (lv_at hl 0 rfl) ?_
      refine va_getN (D := D) (ci := 0) (C := RX0) (T := TX0) (N := 3) hx hb hts hin0 hown hK hP (6 + (hf a)) (wC_sh (hHF a ha)) rfl 0 (by decide) (hE.nF (by decide +kernel)) (fun _ h9 => h9) rfl dX1_at_37 ?_
      refine lv_iload_n hx hb dX1_at_40 rfl (lv_at hl 3 rfl) ?_
      refine rw_lld hx hb hK hP (16 + (hf a)) 1 (wC_pl h9) rfl (j := k) (ek) (by omega) (by decide) dX1_at_41 ?_
      refine vx_ret ?_
      refine W.widen (k := 2) (n := 12) (by decide) (by decide) ?_
      exact W.lret (v := ((pl (hf a)) k)) hx hb hr (fun t ht _ => ⟨⟨_, (()), rfl, ⟨a, k, ha, ea, h12, hk, ek, rfl⟩, by rw [ht]; exact hP, hD⟩, hS.F ht⟩) hS.2.2 dX1_at_42
    · skip
      refine lv_if_ne (tgt := 36) hx hb dX1_at_23 (by decide) (fun c23 => absurd c23 (by decide)) (fun c23 => ?_)
      exact rt_ns (text := "no such place") hx hb hlt hown hts (by decide +kernel) (by decide +kernel) (fun w h => by first | exact List.mem_cons_of_mem _ (List.mem_append_right _ h) | exact List.mem_cons_of_mem _ (List.mem_append_left _ (List.mem_append_right _ h))) hE (by decide +kernel) hS (hl.1.trans hml.symm) dX1_at_26 dX1_at_29 dX1_at_30 dX1_at_32 dX1_at_35 (hex0 _) (Nat.le_of_ble_eq_true rfl) (Nat.le_of_ble_eq_true rfl) (Nat.le_of_ble_eq_true rfl) (Nat.le_of_ble_eq_true rfl) (Nat.le_of_ble_eq_true rfl) (Nat.le_of_ble_eq_true rfl) hlocks hP hD (Or.inr ⟨rfl, a, ha, ea, Or.inr h20⟩)
  · skip
    refine lv_if_eq (tgt := 26) hx hb dX1_at_15 (by decide) (fun c15 => ?_) (fun c15 => absurd c15 (by decide))
    exact rt_ns (text := "no such place") hx hb hlt hown hts (by decide +kernel) (by decide +kernel) (fun w h => by first | exact List.mem_cons_of_mem _ (List.mem_append_right _ h) | exact List.mem_cons_of_mem _ (List.mem_append_left _ (List.mem_append_right _ h))) hE (by decide +kernel) hS (hl.1.trans hml.symm) dX1_at_26 dX1_at_29 dX1_at_30 dX1_at_32 dX1_at_35 (hex0 _) (Nat.le_of_ble_eq_true rfl) (Nat.le_of_ble_eq_true rfl) (Nat.le_of_ble_eq_true rfl) (Nat.le_of_ble_eq_true rfl) (Nat.le_of_ble_eq_true rfl) (Nat.le_of_ble_eq_true rfl) hlocks hP hD (Or.inr ⟨rfl, a, ha, ea, Or.inl h12⟩)
set_option maxHeartbeats 4000000 in
set_option maxRecDepth 100000 in
theorem c_X1_person (l : Launch) (D : va_G) (ci : Nat → ClassId) (ad : Nat → Nat) (z : Nat) (F : va_W) (hf : Nat → Nat) (ft : Nat → Int64) (fk : Nat → Int32) (fp : Nat → Int64) (n : Nat) (mk : Nat → Int32) (sz : Nat → Nat) (pl : Nat → Nat → Int64) (x w : Int32) (hlt : l.stackTraces = false) (hHF : ∀ h, h < 8 → hf h < 10) (hSZ : ∀ i, i < 10 → sz i ≤ 40) (h9s : sz 9 = 0) (h9m : mk 9 = 6) (hN : n ≤ 60) (hKD : ∀ k, k < n → ∃ q, q < 3 ∧ fk k = nI q) : vx_Met l yX1_person wsX1_person ({ frames := 7, cells := 1, slots := 6, locals := 111 }) (va_Pc [.ref (ad 0), .int x, .int w] (fun U => WD D ci ad z (wC ci ad hf ft fk fp n mk sz pl ++ F) U)) (va_Ql (fun (r : Int64) (u : Unit) => ∃ k, k < n ∧ x = nI k ∧ ((w = 0 ∧ r = (fk k).toInt64) ∨ (w = 1 ∧ r = fp k) ∨ (w = 2 ∧ r = (wallN hf mk sz pl (lN k) 8).toInt64) ∨ (¬ w = 0 ∧ ¬ w = 1 ∧ ¬ w = 2 ∧ r = -1))) (fun u t => va_P D vwCl (wC ci ad hf ft fk fp n mk sz pl ++ F) t.heap ∧ va_D (LA z) (wC ci ad hf ft fk fp n mk sz pl ++ F)) (LA z)) (XT D z (wC ci ad hf ft fk fp n mk sz pl ++ F) (fun E => E = nsN ∧ (x < 0 ∨ nI n ≤ x))) 1 6 (LA z) := by
  refine vx_ofW (cc := cX1_person) (maxL := 3) (ret := (some .long)) (by decide) rfl ?_
  intro p e s m args below meth c s₁ B hml hex hv
  obtain ⟨rfl, hP, hD, hK, hE⟩ := hv
  have hx := B.exec
  have hb := B.bytes
  have hr := B.returns
  have hts := atoms_spec (ws := wsX1_person) B.pre
  have hown : s.vm.findClass RX1 = some m.cls := findClass_of_methodNamed B.named
  have hlocks := B.notSynchronized
  have hS : va_S (LA z) s.heap s.heap [] := va_S.rf
  have hex0 : ∀ (j : Nat), ∀ x ∈ c.exceptionTable.toList, covers x j = false := fun _ x hx => (hex x hx).elim
  have hin1 : ∀ w ∈ wsX10, w ∈ wsX1_person := by decide +kernel
  have hl := lv_entry ([.ref (ad 0), .int x, .int w]) (n := 3) (Nat.le_of_ble_eq_true rfl)
  rw [lg_entry_eq]
  generalize (lg_sl ([.ref (ad 0), .int x, .int w]) ++ List.replicate (3 - (lg_sl ([.ref (ad 0), .int x, .int w])).length) Slot.unset).toArray = ls at hl ⊢
  have hl : lv_has ls 3 [(0, .ref (ad 0)), (1, .int x), (2, .int w)] := hl
  refine lv_aload_n hx hb dX1_person_0 rfl (lv_at hl 0 rfl) ?_
  refine lv_iload_n hx hb dX1_person_1 rfl (lv_at hl 1 rfl) ?_
  refine vx_callv (vx_runV (As := [.int x]) (rest := []) ⟨hx, hb, hml, hown, hts⟩ (c_X1_requirePerson l D ci ad z F hf ft fk fp n mk sz pl x hlt hN) (cwV 1 hts gX1_person_X1_requirePerson rfl rfl rfl (by decide +kernel) ⟨Nat.le_of_ble_eq_true rfl, Nat.le_of_ble_eq_true rfl⟩) ⟨WD.fb, (va_recv hK hP (ci := 1) (q0 := 0) rfl rfl), fun U hU hW => ⟨rfl, WD.call hP hD hK hE hS hU hW⟩⟩ rfl rfl hl.1 rfl (lv_room (Nat.le_of_ble_eq_true rfl)) dX1_person_2 ⟨Nat.le_of_ble_eq_true rfl, Nat.le_of_ble_eq_true rfl⟩) hS (fun q _ h => h) (fun q h => h) (fun q _ h => h) (fun E2 ce2 qx2 u2 t2 H locs ht2 hvm2 hpx2 hB2 hz2 hk2 hS hce2 hcv2 hcl2 => ?_) (fun u2 t2 H locs ht2 hvm2 hw2 hB2 hz2 hk2 hS => ?_)
  · skip
    obtain ⟨hph, hP, hD⟩ := hB2
    rw [ht2] at hP
    exact vx_out (hex0 _) hlocks hce2 hcv2 hcl2 (XT.out hP hD hS (hph)) hS.2.2 (by decide) (by decide)
  obtain ⟨hP, hD⟩ := hB2
  rw [ht2] at hP
  obtain ⟨k, hk, ek⟩ := hw2
  refine lv_iload_n hx hb dX1_person_5 rfl (lv_at hl 2 rfl) ?_
  by_cases w0 : w = 0
  · skip
    refine lv_tableIn (off := 26) (tgt := 32) hx hb dX1_person_6 (by rw [w0]; decide) (by rw [w0]; decide) (by rw [w0]; decide) (by decide) ?_
    refine lv_aload_n hx hb dX1_person_32 rfl (lv_at hl 0 rfl) ?_
    refine va_get (D := D) (ci := 1) (C := RX1) (T := TX1) (N := 7) hx hb hts hin1 hown hK hP 0 rfl rfl 4 (by decide) (hts (.fieldLink RX1 29 "DutyRota" "kinds" "[I") (by decide +kernel)) (fun _ h9 => h9) rfl dX1_person_33 ?_
    refine lv_iload_n hx hb dX1_person_36 rfl (lv_at hl 1 rfl) ?_
    refine rw_ild hx hb hK hP 4 0 rfl rfl (j := k) (ek) (by omega) (by decide) dX1_person_37 ?_
    refine lv_i2l hx hb dX1_person_38 rfl ?_
    refine vx_ret ?_
    exact W.lret (v := (fk k).toInt64) hx hb hr (fun t ht _ => ⟨⟨_, (()), rfl, ⟨k, hk, ek, Or.inl ⟨w0, rfl⟩⟩, by rw [ht]; exact hP, hD⟩, hS.F ht⟩) hS.2.2 dX1_person_39
  by_cases w1 : w = 1
  · skip
    refine lv_tableIn (off := 34) (tgt := 40) hx hb dX1_person_6 (by rw [w1]; decide) (by rw [w1]; decide) (by rw [w1]; decide) (by decide) ?_
    refine lv_aload_n hx hb dX1_person_40 rfl (lv_at hl 0 rfl) ?_
    refine va_get (D := D) (ci := 1) (C := RX1) (T := TX1) (N := 7) hx hb hts hin1 hown hK hP 0 rfl rfl 5 (by decide) (hts (.fieldLink RX1 33 "DutyRota" "purses" "[J") (by decide +kernel)) (fun _ h9 => h9) rfl dX1_person_41 ?_
    refine lv_iload_n hx hb dX1_person_44 rfl (lv_at hl 1 rfl) ?_
    refine rw_lld hx hb hK hP 5 1 rfl rfl (j := k) (ek) (by omega) (by decide) dX1_person_45 ?_
    refine vx_ret ?_
    exact W.lret (v := (fp k)) hx hb hr (fun t ht _ => ⟨⟨_, (()), rfl, ⟨k, hk, ek, Or.inr (Or.inl ⟨w1, rfl⟩)⟩, by rw [ht]; exact hP, hD⟩, hS.F ht⟩) hS.2.2 dX1_person_46
  by_cases w2 : w = 2
  · skip
    refine lv_tableIn (off := 41) (tgt := 47) hx hb dX1_person_6 (by rw [w2]; decide) (by rw [w2]; decide) (by rw [w2]; decide) (by decide) ?_
    refine lv_aload_n hx hb dX1_person_47 rfl (lv_at hl 0 rfl) ?_
    refine lv_iload_n hx hb dX1_person_48 rfl (lv_at hl 1 rfl) ?_
    refine vp_callSi (W.runV (As := [.int x]) (rest := []) ⟨hx, hb, hml, hown, hts⟩ (c_X1_placesOnWall l D ci ad z F hf ft fk fp n mk sz pl x hHF hSZ h9s) (cwV 1 hts gX1_person_X1_placesOnWall rfl rfl rfl (by decide +kernel) ⟨Nat.le_of_ble_eq_true rfl, Nat.le_of_ble_eq_true rfl⟩) ⟨WD.fb, (va_recv hK hP (ci := 1) (q0 := 0) rfl rfl), fun U hU hW => ⟨rfl, WD.call hP hD hK hE hS hU hW⟩⟩ rfl rfl hl.1 rfl (lv_room (Nat.le_of_ble_eq_true rfl)) dX1_person_49 ⟨Nat.le_of_ble_eq_true rfl, Nat.le_of_ble_eq_true rfl⟩) (fun r49 hw49 => ?_)
    refine lv_i2l hx hb dX1_person_52 rfl ?_
    refine vx_ret ?_
    exact W.lret (v := r49.toInt64) hx hb hr (fun t ht _ => ⟨⟨_, (()), rfl, ⟨k, hk, ek, Or.inr (Or.inr (Or.inl ⟨w2, by rw [hw49, ek, nI_l (by omega)]⟩))⟩, by rw [ht]; exact hP, hD⟩, hS.F ht⟩) hS.2.2 dX1_person_53
  refine lv_tableOut (tgt := 54) hx hb dX1_person_6 (tab3 w0 w1 w2) (by decide) ?_
  refine lv_ldc2 hx hb hown (hts (.constantLong RX1 129 (-1)) (by decide +kernel)) dX1_person_54 ?_
  refine vx_ret ?_
  exact W.lret (v := (-1)) hx hb hr (fun t ht _ => ⟨⟨_, (()), rfl, ⟨k, hk, ek, Or.inr (Or.inr (Or.inr ⟨w0, w1, w2, rfl⟩))⟩, by rw [ht]; exact hP, hD⟩, hS.F ht⟩) hS.2.2 dX1_person_57
set_option maxHeartbeats 4000000 in
set_option maxRecDepth 100000 in
theorem c_X1_count (l : Launch) (D : va_G) (ci : Nat → ClassId) (ad : Nat → Nat) (z : Nat) (F : va_W) (hf : Nat → Nat) (ft : Nat → Int64) (fk : Nat → Int32) (fp : Nat → Int64) (n : Nat) (mk : Nat → Int32) (sz : Nat → Nat) (pl : Nat → Nat → Int64) : Met l yX1_count wsX1_count ({ frames := 0, cells := 0, slots := 0, locals := 0 }) (va_Pc [.ref (ad 0)] (fun U => WD D ci ad z (wC ci ad hf ft fk fp n mk sz pl ++ F) U)) (vp_Si (fun r => r = nI n)) 0 0 (fun _ => False) := by
  refine Met.ofW (cc := cX1_count) (maxL := 1) (ret := (some .int)) (by decide) rfl ?_
  intro p e s m args below meth c s₁ B hml hv
  obtain ⟨rfl, hP, hD, hK, hE⟩ := hv
  have hx := B.exec
  have hb := B.bytes
  have hr := B.returns
  have hts := atoms_spec (ws := wsX1_count) B.pre
  have hown : s.vm.findClass RX1 = some m.cls := findClass_of_methodNamed B.named
  have hlocks := B.notSynchronized
  have hS : va_S (LA z) s.heap s.heap [] := va_S.rf
  have hin1 : ∀ w ∈ wsX10, w ∈ wsX1_count := by decide +kernel
  have hl := lv_entry ([.ref (ad 0)]) (n := 1) (Nat.le_of_ble_eq_true rfl)
  rw [lg_entry_eq]
  generalize (lg_sl ([.ref (ad 0)]) ++ List.replicate (1 - (lg_sl ([.ref (ad 0)])).length) Slot.unset).toArray = ls at hl ⊢
  have hl : lv_has ls 1 [(0, .ref (ad 0))] := hl
  refine lv_aload_n hx hb dX1_count_0 rfl (lv_at hl 0 rfl) ?_
  refine va_get (D := D) (ci := 1) (C := RX1) (T := TX1) (N := 7) hx hb hts hin1 hown hK hP 0 rfl rfl 6 (by decide) (hts (.fieldLink RX1 36 "DutyRota" "hired" "I") (by decide +kernel)) (fun _ h9 => h9) rfl dX1_count_1 ?_
  exact W.iret (v := (nI n)) hx hb hr (fun t ht _ => ⟨_, rfl, rfl, ht⟩) (fun _ h => nomatch h) dX1_count_4
set_option maxHeartbeats 4000000 in
set_option maxRecDepth 100000 in
theorem c_X1_hang (l : Launch) (D : va_G) (ci : Nat → ClassId) (ad : Nat → Nat) (z : Nat) (F : va_W) (hf : Nat → Nat) (ft : Nat → Int64) (fk : Nat → Int32) (fp : Nat → Int64) (n : Nat) (mk : Nat → Int32) (sz : Nat → Nat) (pl : Nat → Nat → Int64) (x y t : Int32) (hlt : l.stackTraces = false) (hHF : ∀ h, h < 8 → hf h < 10) (hSZ : ∀ i, i < 10 → sz i ≤ 40) (h9s : sz 9 = 0) (h9m : mk 9 = 6) (hN : n ≤ 60) (hKD : ∀ k, k < n → ∃ q, q < 3 ∧ fk k = nI q) : vx_Met l yX1_hang wsX1_hang ({ frames := 7, cells := 3, slots := 18, locals := 110 }) (va_Pc [.ref (ad 0), .int x, .int y, .int t] (fun U => WD D ci ad z (wC ci ad hf ft fk fp n mk sz pl ++ F) U)) (va_Qi (fun (r : Int32) (u : (Nat → Nat) × (Nat → Int32) × (Nat → Nat) × (Nat → Nat → Int64)) => ∃ a, a < 8 ∧ x = nI a ∧ (¬ y < 0 ∧ y ≤ 6 ∧ t ≤ 40) ∧ hangP hf mk sz pl a y t r u.1 u.2.1 u.2.2.1 u.2.2.2) (fun u t => va_P D vwCl (wC ci ad u.1 ft fk fp n u.2.1 u.2.2.1 u.2.2.2 ++ F) t.heap ∧ va_D (LA z) (wC ci ad u.1 ft fk fp n u.2.1 u.2.2.1 u.2.2.2 ++ F)) (LA z)) (XT D z (wC ci ad hf ft fk fp n mk sz pl ++ F) (fun E => E = iaeN ∧ (badH x ∨ (y < 0 ∨ 6 < y) ∨ 40 < t))) 3 18 (LA z) := by
  refine vx_ofW (cc := cX1_hang) (maxL := 6) (ret := (some .int)) (by decide) rfl ?_
  intro p e s m args below meth c s₁ B hml hex hv
  obtain ⟨rfl, hP, hD, hK, hE⟩ := hv
  have hx := B.exec
  have hb := B.bytes
  have hr := B.returns
  have hts := atoms_spec (ws := wsX1_hang) B.pre
  have hown : s.vm.findClass RX1 = some m.cls := findClass_of_methodNamed B.named
  have hlocks := B.notSynchronized
  have hS : va_S (LA z) s.heap s.heap [] := va_S.rf
  have hex0 : ∀ (j : Nat), ∀ x ∈ c.exceptionTable.toList, covers x j = false := fun _ x hx => (hex x hx).elim
  have hin1 : ∀ w ∈ wsX10, w ∈ wsX1_hang := by decide +kernel
  have hl := lv_entry ([.ref (ad 0), .int x, .int y, .int t]) (n := 6) (Nat.le_of_ble_eq_true rfl)
  rw [lg_entry_eq]
  generalize (lg_sl ([.ref (ad 0), .int x, .int y, .int t]) ++ List.replicate (6 - (lg_sl ([.ref (ad 0), .int x, .int y, .int t])).length) Slot.unset).toArray = ls at hl ⊢
  have hl : lv_has ls 6 [(0, .ref (ad 0)), (1, .int x), (2, .int y), (3, .int t)] := hl
  refine lv_iload_n hx hb dX1_hang_0 rfl (lv_at hl 1 rfl) ?_
  refine vx_callv (vx_runS (As := [.int x]) (rest := []) ⟨hx, hb, hml, hown, hts⟩ (c_X1_requireHook l D ci ad z F hf ft fk fp n mk sz pl x hlt ) (va_cwS 1 hts gX1_hang_X1_requireHook rfl rfl rfl (by decide +kernel) ⟨Nat.le_of_ble_eq_true rfl, Nat.le_of_ble_eq_true rfl⟩) ⟨WD.fb, fun U hU hW => ⟨rfl, WD.call hP hD hK hE hS hU hW⟩⟩ rfl rfl hl.1 rfl (lv_room (Nat.le_of_ble_eq_true rfl)) dX1_hang_1 ⟨Nat.le_of_ble_eq_true rfl, Nat.le_of_ble_eq_true rfl⟩) hS (fun q _ h => h) (fun q h => h) (fun q _ h => h) (fun E1 ce1 qx1 u1 t1 H locs ht1 hvm1 hpx1 hB1 hz1 hk1 hS hce1 hcv1 hcl1 => ?_) (fun u1 t1 H locs ht1 hvm1 hw1 hB1 hz1 hk1 hS => ?_)
  · skip
    obtain ⟨hph, hP, hD⟩ := hB1
    rw [ht1] at hP
    exact vx_out (hex0 _) hlocks hce1 hcv1 hcl1 (XT.out hP hD hS (⟨hph.1, Or.inl hph.2⟩)) hS.2.2 (by decide) (by decide)
  obtain ⟨hP, hD⟩ := hB1
  rw [ht1] at hP
  obtain ⟨a, ha, ea⟩ := hw1
  refine lv_iload_n hx hb dX1_hang_4 rfl (lv_at hl 2 rfl) ?_
  refine vx_callv (vx_runS (As := [.int y]) (rest := []) ⟨hx, hb, hml, hown, hts⟩ (c_X1_requireMake l D ci ad z F hf ft fk fp n mk sz pl y hlt ) (va_cwS 1 hts gX1_hang_X1_requireMake rfl rfl rfl (by decide +kernel) ⟨Nat.le_of_ble_eq_true rfl, Nat.le_of_ble_eq_true rfl⟩) ⟨WD.fb, fun U hU hW => ⟨rfl, WD.call hP hD hK hE hS hU hW⟩⟩ rfl rfl hl.1 rfl (lv_room (Nat.le_of_ble_eq_true rfl)) dX1_hang_5 ⟨Nat.le_of_ble_eq_true rfl, Nat.le_of_ble_eq_true rfl⟩) hS (fun q _ h => h) (fun q h => h) (fun q _ h => h) (fun E5 ce5 qx5 u5 t5 H locs ht5 hvm5 hpx5 hB5 hz5 hk5 hS hce5 hcv5 hcl5 => ?_) (fun u5 t5 H locs ht5 hvm5 hw5 hB5 hz5 hk5 hS => ?_)
  · skip
    obtain ⟨hph, hP, hD⟩ := hB5
    rw [ht5] at hP
    exact vx_out (hex0 _) hlocks hce5 hcv5 hcl5 (XT.out hP hD hS (⟨hph.1, Or.inr (Or.inl hph.2)⟩)) hS.2.2 (by decide) (by decide)
  obtain ⟨hP, hD⟩ := hB5
  rw [ht5] at hP
  refine lv_iload_n hx hb dX1_hang_8 rfl (lv_at hl 3 rfl) ?_
  refine lv_bipush (v := 40) hx hb dX1_hang_9 (by decide) ?_
  refine lv_icmp_le (tgt := 24) hx hb dX1_hang_11 (by decide) (fun c11 => ?_) (fun c11 => ?_)
  · skip
    refine lv_iload_n hx hb dX1_hang_24 rfl (lv_at hl 2 rfl) ?_
    refine lv_bipush (v := 6) hx hb dX1_hang_25 (by decide) ?_
    refine lv_icmp_ne (tgt := 42) hx hb dX1_hang_27 (by decide) (fun c27 => ?_) (fun c27 => ?_)
    · skip
      refine lv_iload_n hx hb dX1_hang_42 rfl (lv_at hl 2 rfl) ?_
      refine lv_iconst (v := 4) hx hb dX1_hang_43 (by decide) ?_
      refine lv_icmp_gt (tgt := 51) hx hb dX1_hang_44 (by decide) (fun c44 => ?_) (fun c44 => ?_)
      · skip
        refine lv_iconst (v := 0) hx hb dX1_hang_51 (by decide) ?_
        refine lv_istore (lv' := [(4, .int 0), (0, .ref (ad 0)), (1, .int x), (2, .int y), (3, .int t)]) hx hb dX1_hang_52 hl (by decide) rfl (fun ls hl => ?_)
        refine lv_iload hx hb dX1_hang_54 (lv_at hl 0 rfl) ?_
        refine lv_if_eq (tgt := 65) hx hb dX1_hang_56 (by decide) (fun c56 => ?_) (fun c56 => absurd c56 (by decide))
        refine lv_aload_n hx hb dX1_hang_65 rfl (lv_at hl 1 rfl) ?_
        refine va_csr (W.runV (As := []) (rest := []) ⟨hx, hb, hml, hown, hts⟩ (c_X1_idleSheet l D ci ad z F hf ft fk fp n mk sz pl  hHF) (cwV 0 hts gX1_hang_X1_idleSheet rfl rfl rfl (by decide +kernel) ⟨Nat.le_of_ble_eq_true rfl, Nat.le_of_ble_eq_true rfl⟩) ⟨WD.fb, (va_recv hK hP (ci := 1) (q0 := 0) rfl rfl), fun U hU hW => ⟨rfl, WD.call hP hD hK hE hS hU hW⟩⟩ rfl rfl hl.1 rfl (lv_room (Nat.le_of_ble_eq_true rfl)) dX1_hang_66 ⟨Nat.le_of_ble_eq_true rfl, Nat.le_of_ble_eq_true rfl⟩) (fun k66 hw66 => ?_)
        refine lv_astore (lv' := [(5, .ref (ad (10 + k66))), (4, .int 0), (0, .ref (ad 0)), (1, .int x), (2, .int y), (3, .int t)]) hx hb dX1_hang_69 hl (by decide) rfl (fun ls hl => ?_)
        refine lv_aload hx hb dX1_hang_71 (lv_at hl 0 rfl) ?_
        refine lv_iload_n hx hb dX1_hang_73 rfl (lv_at hl 4 rfl) ?_
        refine lv_iload hx hb dX1_hang_74 (lv_at hl 1 rfl) ?_
        refine lv_if_eq (tgt := 83) hx hb dX1_hang_76 (by decide) (fun c76 => ?_) (fun c76 => absurd c76 (by decide))
        refine lv_iconst (v := 0) hx hb dX1_hang_83 (by decide) ?_
        have h6 : ¬ y = 6 := c27
        refine rw_topi (y := nI 0) rfl ?_
        refine va_callv (va_runVN (As := [.int y, .int (nI 0)]) (rest := []) ⟨hx, hb, hml, hown, hts⟩ (c_X0_become l D ci ad z F hf ft fk fp n mk sz pl k66 y 0 (Nat.lt_succ_of_lt hw66.1) hw66.1 (by decide)) ⟨va_cnB 2 hts gX1_hang_X0_become_n57 rfl rfl rfl (hE.nM (by decide +kernel)) (hts (.initialized RX0) (by decide +kernel)) (by decide +kernel) ⟨Nat.le_of_ble_eq_true rfl, Nat.le_of_ble_eq_true rfl⟩, hts (.instanceMethod yX0_become) (by decide +kernel), hts (.selects RX0 yX0_become yX0_become) (by decide +kernel)⟩ ⟨WD.fb, (va_recv hK hP (ci := 0) (q0 := 6 + k66) rfl (wC_sh (Nat.lt_succ_of_lt hw66.1))), fun U hU hW => ⟨rfl, WD.call hP hD hK hE hS hU hW⟩⟩ rfl rfl hl.1 rfl (lv_room (Nat.le_of_ble_eq_true rfl)) dX1_hang_84 ⟨Nat.le_of_ble_eq_true rfl, Nat.le_of_ble_eq_true rfl⟩) hS (fun q _ h => h) (fun q h => h) (fun u84 t84 H locs ht84 hvm84 hw84 hB84 hz84 hk84 hS => ?_)
        obtain ⟨hP, hD⟩ := hB84
        rw [ht84] at hP
        refine lv_aload_n hx hb dX1_hang_87 rfl (lv_at hl 2 rfl) ?_
        refine va_get (D := D) (ci := 1) (C := RX1) (T := TX1) (N := 7) hx hb hts hin1 hown hK hP 0 rfl rfl 1 (by decide) (hts (.fieldLink RX1 18 "DutyRota" "hooks" "[LDutyRota$Sheet;") (by decide +kernel)) (fun _ h9 => h9) rfl dX1_hang_88 ?_
        refine lv_iload_n hx hb dX1_hang_91 rfl (lv_at hl 3 rfl) ?_
        refine lv_aload hx hb dX1_hang_92 (lv_at hl 0 rfl) ?_
        refine rw_rst hx hb hK hP hD hS 1 2 (6 + k66) 0 rfl rfl (wC_sh (Nat.lt_succ_of_lt hw66.1)) rfl (j := a) (ea) (ha) (by decide) (ws' := wC ci ad (va_up hf a k66) ft fk fp n (va_up mk k66 y) (va_up sz k66 0) u84 ++ F) (by rw [wC_hk]; rfl) dX1_hang_94 (fun H locs hP hD hS => ?_)
        refine lv_iconst (v := 0) hx hb dX1_hang_95 (by decide) ?_
        refine vx_ret ?_
        refine W.widen (k := 3) (n := 18) (by decide) (by decide) ?_
        exact W.iret (v := 0) hx hb hr (fun t ht _ => ⟨⟨_, ((va_up hf a k66), (va_up mk k66 y), (va_up sz k66 0), u84), rfl, ⟨a, ha, ea, ⟨hw5.1, hw5.2, c11⟩, Or.inr (Or.inr ⟨c27, k66, 0, hw66.1, hw66.2, Or.inr ⟨Int32.not_le.mpr c44, rfl⟩, rfl, rfl, rfl, rfl, hw84⟩)⟩, by rw [ht]; exact hP, hD⟩, hS.F ht⟩) hS.2.2 dX1_hang_96
      · skip
        refine lv_iconst (v := 1) hx hb dX1_hang_47 (by decide) ?_
        refine lv_goto (tgt := 52) hx hb dX1_hang_48 (by decide) ?_
        refine lv_istore (lv' := [(4, .int 1), (0, .ref (ad 0)), (1, .int x), (2, .int y), (3, .int t)]) hx hb dX1_hang_52 hl (by decide) rfl (fun ls hl => ?_)
        refine lv_iload hx hb dX1_hang_54 (lv_at hl 0 rfl) ?_
        refine lv_if_eq (tgt := 65) hx hb dX1_hang_56 (by decide) (fun c56 => absurd c56 (by decide)) (fun c56 => ?_)
        refine lv_iload_n hx hb dX1_hang_59 rfl (lv_at hl 4 rfl) ?_
        refine lv_if_ge (tgt := 65) hx hb dX1_hang_60 (by decide) (fun c60 => ?_) (fun c60 => ?_)
        · skip
          have c60n : ¬ t < 0 := Int32.not_lt.mpr c60
          refine lv_aload_n hx hb dX1_hang_65 rfl (lv_at hl 1 rfl) ?_
          refine va_csr (W.runV (As := []) (rest := []) ⟨hx, hb, hml, hown, hts⟩ (c_X1_idleSheet l D ci ad z F hf ft fk fp n mk sz pl  hHF) (cwV 0 hts gX1_hang_X1_idleSheet rfl rfl rfl (by decide +kernel) ⟨Nat.le_of_ble_eq_true rfl, Nat.le_of_ble_eq_true rfl⟩) ⟨WD.fb, (va_recv hK hP (ci := 1) (q0 := 0) rfl rfl), fun U hU hW => ⟨rfl, WD.call hP hD hK hE hS hU hW⟩⟩ rfl rfl hl.1 rfl (lv_room (Nat.le_of_ble_eq_true rfl)) dX1_hang_66 ⟨Nat.le_of_ble_eq_true rfl, Nat.le_of_ble_eq_true rfl⟩) (fun k66 hw66 => ?_)
          refine lv_astore (lv' := [(5, .ref (ad (10 + k66))), (4, .int 1), (0, .ref (ad 0)), (1, .int x), (2, .int y), (3, .int t)]) hx hb dX1_hang_69 hl (by decide) rfl (fun ls hl => ?_)
          refine lv_aload hx hb dX1_hang_71 (lv_at hl 0 rfl) ?_
          refine lv_iload_n hx hb dX1_hang_73 rfl (lv_at hl 4 rfl) ?_
          refine lv_iload hx hb dX1_hang_74 (lv_at hl 1 rfl) ?_
          refine lv_if_eq (tgt := 83) hx hb dX1_hang_76 (by decide) (fun c76 => absurd c76 (by decide)) (fun c76 => ?_)
          refine lv_iload_n hx hb dX1_hang_79 rfl (lv_at hl 5 rfl) ?_
          refine lv_goto (tgt := 84) hx hb dX1_hang_80 (by decide) ?_
          have h6 : ¬ y = 6 := c27
          obtain ⟨N, hN40, eN⟩ := le_in (S := 40) (by decide) c60n c11
          refine rw_topi (y := nI N) eN ?_
          refine va_callv (va_runVN (As := [.int y, .int (nI N)]) (rest := []) ⟨hx, hb, hml, hown, hts⟩ (c_X0_become l D ci ad z F hf ft fk fp n mk sz pl k66 y N (Nat.lt_succ_of_lt hw66.1) hw66.1 hN40) ⟨va_cnB 2 hts gX1_hang_X0_become_n57 rfl rfl rfl (hE.nM (by decide +kernel)) (hts (.initialized RX0) (by decide +kernel)) (by decide +kernel) ⟨Nat.le_of_ble_eq_true rfl, Nat.le_of_ble_eq_true rfl⟩, hts (.instanceMethod yX0_become) (by decide +kernel), hts (.selects RX0 yX0_become yX0_become) (by decide +kernel)⟩ ⟨WD.fb, (va_recv hK hP (ci := 0) (q0 := 6 + k66) rfl (wC_sh (Nat.lt_succ_of_lt hw66.1))), fun U hU hW => ⟨rfl, WD.call hP hD hK hE hS hU hW⟩⟩ rfl rfl hl.1 rfl (lv_room (Nat.le_of_ble_eq_true rfl)) dX1_hang_84 ⟨Nat.le_of_ble_eq_true rfl, Nat.le_of_ble_eq_true rfl⟩) hS (fun q _ h => h) (fun q h => h) (fun u84 t84 H locs ht84 hvm84 hw84 hB84 hz84 hk84 hS => ?_)
          obtain ⟨hP, hD⟩ := hB84
          rw [ht84] at hP
          refine lv_aload_n hx hb dX1_hang_87 rfl (lv_at hl 2 rfl) ?_
          refine va_get (D := D) (ci := 1) (C := RX1) (T := TX1) (N := 7) hx hb hts hin1 hown hK hP 0 rfl rfl 1 (by decide) (hts (.fieldLink RX1 18 "DutyRota" "hooks" "[LDutyRota$Sheet;") (by decide +kernel)) (fun _ h9 => h9) rfl dX1_hang_88 ?_
          refine lv_iload_n hx hb dX1_hang_91 rfl (lv_at hl 3 rfl) ?_
          refine lv_aload hx hb dX1_hang_92 (lv_at hl 0 rfl) ?_
          refine rw_rst hx hb hK hP hD hS 1 2 (6 + k66) 0 rfl rfl (wC_sh (Nat.lt_succ_of_lt hw66.1)) rfl (j := a) (ea) (ha) (by decide) (ws' := wC ci ad (va_up hf a k66) ft fk fp n (va_up mk k66 y) (va_up sz k66 N) u84 ++ F) (by rw [wC_hk]; rfl) dX1_hang_94 (fun H locs hP hD hS => ?_)
          refine lv_iconst (v := 0) hx hb dX1_hang_95 (by decide) ?_
          refine vx_ret ?_
          refine W.widen (k := 3) (n := 18) (by decide) (by decide) ?_
          exact W.iret (v := 0) hx hb hr (fun t ht _ => ⟨⟨_, ((va_up hf a k66), (va_up mk k66 y), (va_up sz k66 N), u84), rfl, ⟨a, ha, ea, ⟨hw5.1, hw5.2, c11⟩, Or.inr (Or.inr ⟨c27, k66, N, hw66.1, hw66.2, Or.inl ⟨Int32.not_lt.mp c44, eN, hN40⟩, rfl, rfl, rfl, rfl, hw84⟩)⟩, by rw [ht]; exact hP, hD⟩, hS.F ht⟩) hS.2.2 dX1_hang_96
        · skip
          refine lv_iconst (v := 4) hx hb dX1_hang_63 (by decide) ?_
          refine vx_ret ?_
          refine W.widen (k := 3) (n := 18) (by decide) (by decide) ?_
          exact W.iret (v := 4) hx hb hr (fun t ht _ => ⟨⟨_, (hf, mk, sz, pl), rfl, ⟨a, ha, ea, ⟨hw5.1, hw5.2, c11⟩, Or.inr (Or.inl ⟨c27, Int32.not_lt.mp c44, Int32.not_le.mp c60, rfl, rfl, rfl, rfl, rfl⟩)⟩, by rw [ht]; exact hP, hD⟩, hS.F ht⟩) hS.2.2 dX1_hang_64
    · skip
      refine lv_aload_n hx hb dX1_hang_30 rfl (lv_at hl 0 rfl) ?_
      refine va_get (D := D) (ci := 1) (C := RX1) (T := TX1) (N := 7) hx hb hts hin1 hown hK hP 0 rfl rfl 1 (by decide) (hts (.fieldLink RX1 18 "DutyRota" "hooks" "[LDutyRota$Sheet;") (by decide +kernel)) (fun _ h9 => h9) rfl dX1_hang_31 ?_
      refine lv_iload_n hx hb dX1_hang_34 rfl (lv_at hl 1 rfl) ?_
      refine lv_aload_n hx hb dX1_hang_35 rfl (lv_at hl 0 rfl) ?_
      refine va_get (D := D) (ci := 1) (C := RX1) (T := TX1) (N := 7) hx hb hts hin1 hown hK hP 0 rfl rfl 0 (by decide) (hts (.fieldLink RX1 12 "DutyRota" "nothing" "LDutyRota$Sheet;") (by decide +kernel)) (fun _ h9 => h9) rfl dX1_hang_36 ?_
      refine rw_rst hx hb hK hP hD hS 1 2 (6 + 9) 0 rfl rfl (wC_sh (by decide)) rfl (j := a) (ea) (ha) (by decide) (ws' := wC ci ad (va_up hf a 9) ft fk fp n mk sz pl ++ F) (by rw [wC_hk]; rfl) dX1_hang_39 (fun H locs hP hD hS => ?_)
      refine lv_iconst (v := 0) hx hb dX1_hang_40 (by decide) ?_
      refine vx_ret ?_
      refine W.widen (k := 3) (n := 18) (by decide) (by decide) ?_
      exact W.iret (v := 0) hx hb hr (fun t ht _ => ⟨⟨_, ((va_up hf a 9), mk, sz, pl), rfl, ⟨a, ha, ea, ⟨hw5.1, hw5.2, c11⟩, Or.inl ⟨c27, rfl, rfl, rfl, rfl, rfl⟩⟩, by rw [ht]; exact hP, hD⟩, hS.F ht⟩) hS.2.2 dX1_hang_41
  · skip
    exact rt_iae (text := "too many places") hx hb hlt hown hts (by decide +kernel) (by decide +kernel) (fun w h => by first | exact List.mem_cons_of_mem _ (List.mem_append_right _ h) | exact List.mem_cons_of_mem _ (List.mem_append_left _ (List.mem_append_right _ h))) hE (by decide +kernel) hS (hl.1.trans hml.symm) dX1_hang_14 dX1_hang_17 dX1_hang_18 dX1_hang_20 dX1_hang_23 (hex0 _) (Nat.le_of_ble_eq_true rfl) (Nat.le_of_ble_eq_true rfl) (Nat.le_of_ble_eq_true rfl) (Nat.le_of_ble_eq_true rfl) (Nat.le_of_ble_eq_true rfl) (Nat.le_of_ble_eq_true rfl) hlocks hP hD ⟨rfl, Or.inr (Or.inr (Int32.not_le.mp c11))⟩
