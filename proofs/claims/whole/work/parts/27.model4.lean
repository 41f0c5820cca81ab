set_option maxHeartbeats 4000000 in
set_option maxRecDepth 100000 in
theorem c_X2_slide (l : Launch) (D : va_G) (ci : Nat → ClassId) (ad : Nat → Nat) (z : Nat) (F : va_W) (th : Int32) (hd : Nat → Int32) (mk : Nat → Int32) (sz : Nat → Int32) (ce : Nat → Int64) (as : Nat → Int64) (np : Nat) (kd : Nat → Int32) (pu : Nat → Int64) (Hg Z : Nat → Nat) (x i k : Int32) (hH : hOK hd Hg) (hZ : zOK sz Z) (hN : np ≤ 60) (hMK : ∀ t, t < 9 → ¬ mk t < 0) (hRO : ∀ h, h < 8 → mV mk (Hg h) ≤ 2 → ∀ q, q < sV mk Z (Hg h) → okV np (rV ce (Hg h) q)) : Met l yX2_slide wsX2_slide ({ frames := 2, cells := 0, slots := 0, locals := 43 }) (va_Pc [.ref (ad 30), .int x, .int i, .int k] (fun U => WD D ci ad z (wM ci ad th hd mk sz ce as np kd pu ++ F) U)) (va_Qi (fun (r : Int32) (u : Int32 × (Nat → Int64) × (Nat → Int64)) => (u.1 = 1 ∧ badH x ∧ u.2.1 = ce) ∨ (u.1 = 0 ∧ ∃ a f, a < 8 ∧ x = nI a ∧ rowIs ce (Hg a) f u.2.1 ∧ slideP (mV mk (Hg a)) (sV mk Z (Hg a)) (rV ce (Hg a)) i k r f)) (fun u t => va_P D vwCl (wM ci ad u.1 hd mk sz u.2.1 u.2.2 np kd pu ++ F) t.heap ∧ va_D (LA z) (wM ci ad u.1 hd mk sz u.2.1 u.2.2 np kd pu ++ F)) (LA z)) 0 0 (LA z) := by
  refine Met.ofW (cc := cX2_slide) (maxL := 12) (ret := (some .int)) (by decide) rfl ?_
  intro p e s m args below meth c s₁ B hml hv
  obtain ⟨rfl, hP, hD, hK, hE⟩ := hv
  have hx := B.exec
  have hb := B.bytes
  have hr := B.returns
  have hts := atoms_spec (ws := wsX2_slide) B.pre
  have hown : s.vm.findClass RX2 = some m.cls := findClass_of_methodNamed B.named
  have hlocks := B.notSynchronized
  have hS : va_S (LA z) s.heap s.heap [] := va_S.rf
  have hin2 : ∀ w ∈ wsX20, w ∈ wsX2_slide := by decide +kernel
  have hl := lv_entry ([.ref (ad 30), .int x, .int i, .int k]) (n := 12) (Nat.le_of_ble_eq_true rfl)
  rw [lg_entry_eq]
  generalize (lg_sl ([.ref (ad 30), .int x, .int i, .int k]) ++ List.replicate (12 - (lg_sl ([.ref (ad 30), .int x, .int i, .int k])).length) Slot.unset).toArray = ls at hl ⊢
  have hl : lv_has ls 12 [(0, .ref (ad 30)), (1, .int x), (2, .int i), (3, .int k)] := hl
  refine lv_aload_n hx hb dX2_slide_0 rfl (lv_at hl 0 rfl) ?_
  refine lv_iload_n hx hb dX2_slide_1 rfl (lv_at hl 1 rfl) ?_
  refine vp_callSi (W.runS (As := [.int x]) (rest := [.ref (ad 30)]) ⟨hx, hb, hml, hown, hts⟩ (c_X2_noHook l x ) (va_cwS 1 hts gX2_slide_X2_noHook rfl rfl rfl (by decide +kernel) ⟨Nat.le_of_ble_eq_true rfl, Nat.le_of_ble_eq_true rfl⟩) ⟨fb0, fun U hU hW => ⟨rfl, trivial⟩⟩ rfl rfl hl.1 rfl (lv_room (Nat.le_of_ble_eq_true rfl)) dX2_slide_2 ⟨Nat.le_of_ble_eq_true rfl, Nat.le_of_ble_eq_true rfl⟩) (fun r2 hw2 => ?_)
  rcases hw2 with ⟨rfl, h2⟩ | ⟨rfl, h2⟩
  · skip
    refine lv_iconst (v := 0) hx hb dX2_slide_5 (by decide) ?_
    refine va_calli (va_runV (As := [.int 1, .int 0]) (rest := []) ⟨hx, hb, hml, hown, hts⟩ (c_X2_fails l D ci ad z F th hd mk sz ce as np kd pu 1 0 ) (cwV 2 hts gX2_slide_X2_fails rfl rfl rfl (by decide +kernel) ⟨Nat.le_of_ble_eq_true rfl, Nat.le_of_ble_eq_true rfl⟩) ⟨WD.fb, (va_recv hK hP (ci := 2) (q0 := 0) rfl rfl), fun U hU hW => ⟨rfl, WD.call hP hD hK hE hS hU hW⟩⟩ rfl rfl hl.1 rfl (lv_room (Nat.le_of_ble_eq_true rfl)) dX2_slide_6 ⟨Nat.le_of_ble_eq_true rfl, Nat.le_of_ble_eq_true rfl⟩) hS (fun q _ h => h) (fun q h => h) (fun r6 u6 t6 H locs ht6 hvm6 hw6 hB6 hz6 hk6 hS => ?_)
    obtain ⟨hP, hD⟩ := hB6
    rw [ht6] at hP
    rcases hw6 with ⟨rfl, h6⟩ | ⟨rfl, h6⟩
    rotate_left
    · exact absurd h6.1 (by decide)
    have hu6 : u6 = 1 := u1 h6
    subst hu6
    refine lv_if_eq (tgt := 14) hx hb dX2_slide_9 (by decide) (fun c9 => absurd c9 (by decide)) (fun c9 => ?_)
    refine lv_iconst (v := 0) hx hb dX2_slide_12 (by decide) ?_
    exact W.iret (v := 0) hx hb hr (fun t ht _ => ⟨⟨_, (1, ce, as), rfl, Or.inl ⟨rfl, h2, rfl⟩, by rw [ht]; exact hP, hD⟩, hS.F ht⟩) hS.2.2 dX2_slide_13
  · skip
    obtain ⟨a, ha, ea⟩ := h2
    refine lv_iconst (v := 0) hx hb dX2_slide_5 (by decide) ?_
    refine va_calli (va_runV (As := [.int 0, .int 0]) (rest := []) ⟨hx, hb, hml, hown, hts⟩ (c_X2_fails l D ci ad z F th hd mk sz ce as np kd pu 0 0 ) (cwV 2 hts gX2_slide_X2_fails rfl rfl rfl (by decide +kernel) ⟨Nat.le_of_ble_eq_true rfl, Nat.le_of_ble_eq_true rfl⟩) ⟨WD.fb, (va_recv hK hP (ci := 2) (q0 := 0) rfl rfl), fun U hU hW => ⟨rfl, WD.call hP hD hK hE hS hU hW⟩⟩ rfl rfl hl.1 rfl (lv_room (Nat.le_of_ble_eq_true rfl)) dX2_slide_6 ⟨Nat.le_of_ble_eq_true rfl, Nat.le_of_ble_eq_true rfl⟩) hS (fun q _ h => h) (fun q h => h) (fun r6 u6 t6 H locs ht6 hvm6 hw6 hB6 hz6 hk6 hS => ?_)
    obtain ⟨hP, hD⟩ := hB6
    rw [ht6] at hP
    rcases hw6 with ⟨rfl, h6⟩ | ⟨rfl, h6⟩
    · exact absurd rfl (h6.elim (fun q => q.1) (fun q => q.2.1))
    have hu6 : u6 = 0 := h6.2.2
    subst hu6
    refine lv_if_eq (tgt := 14) hx hb dX2_slide_9 (by decide) (fun c9 => ?_) (fun c9 => absurd c9 (by decide))
    refine lv_aload_n hx hb dX2_slide_14 rfl (lv_at hl 0 rfl) ?_
    refine lv_iload_n hx hb dX2_slide_15 rfl (lv_at hl 1 rfl) ?_
    refine vp_callSi (W.runV (As := [.int x]) (rest := []) ⟨hx, hb, hml, hown, hts⟩ (c_X2_noRow l D ci ad z F 0 hd mk sz ce as np kd pu Hg Z x a hH hZ ha ea) (cwV 1 hts gX2_slide_X2_noRow rfl rfl rfl (by decide +kernel) ⟨Nat.le_of_ble_eq_true rfl, Nat.le_of_ble_eq_true rfl⟩) ⟨WD.fb, (va_recv hK hP (ci := 2) (q0 := 0) rfl rfl), fun U hU hW => ⟨rfl, WD.call hP hD hK hE hS hU hW⟩⟩ rfl rfl hl.1 rfl (lv_room (Nat.le_of_ble_eq_true rfl)) dX2_slide_16 ⟨Nat.le_of_ble_eq_true rfl, Nat.le_of_ble_eq_true rfl⟩) (fun r16 hw16 => ?_)
    refine lv_istore (lv' := [(4, .int r16), (0, .ref (ad 30)), (1, .int x), (2, .int i), (3, .int k)]) hx hb dX2_slide_19 hl (by decide) rfl (fun ls hl => ?_)
    refine lv_iload hx hb dX2_slide_21 (lv_at hl 0 rfl) ?_
    refine lv_if_eq (tgt := 29) hx hb dX2_slide_23 (by decide) (fun c23 => ?_) (fun c23 => ?_)
    · skip
      have hrow := nr_yes hw16 c23
      have hS40 : sV mk Z (Hg a) ≤ 40 := sV_40 hZ (hH a ha).1
      refine lv_aload_n hx hb dX2_slide_29 rfl (lv_at hl 1 rfl) ?_
      refine lv_iload_n hx hb dX2_slide_30 rfl (lv_at hl 2 rfl) ?_
      refine vp_callSi (W.runV (As := [.int x]) (rest := []) ⟨hx, hb, hml, hown, hts⟩ (c_X2_sizeOf l D ci ad z F 0 hd mk sz ce as np kd pu Hg Z x a hH hZ ha ea) (cwV 1 hts gX2_slide_X2_sizeOf rfl rfl rfl (by decide +kernel) ⟨Nat.le_of_ble_eq_true rfl, Nat.le_of_ble_eq_true rfl⟩) ⟨WD.fb, (va_recv hK hP (ci := 2) (q0 := 0) rfl rfl), fun U hU hW => ⟨rfl, WD.call hP hD hK hE hS hU hW⟩⟩ rfl rfl hl.1 rfl (lv_room (Nat.le_of_ble_eq_true rfl)) dX2_slide_31 ⟨Nat.le_of_ble_eq_true rfl, Nat.le_of_ble_eq_true rfl⟩) (fun r31 hw31 => ?_)
      subst hw31
      refine lv_istore (lv' := [(5, .int (nI (sV mk Z (Hg a)))), (4, .int r16), (0, .ref (ad 30)), (1, .int x), (2, .int i), (3, .int k)]) hx hb dX2_slide_34 hl (by decide) rfl (fun ls hl => ?_)
      refine lv_iload_n hx hb dX2_slide_36 rfl (lv_at hl 4 rfl) ?_
      refine lv_i2l hx hb dX2_slide_37 rfl ?_
      refine lv_iload_n hx hb dX2_slide_38 rfl (lv_at hl 5 rfl) ?_
      refine lv_i2l hx hb dX2_slide_39 rfl ?_
      refine lv_ladd hx hb dX2_slide_40 ?_
      refine lv_topl (fun y_1 ey_1 => ?_)
      refine lv_lstore (lv' := [(6, .long y_1), (5, .int (nI (sV mk Z (Hg a)))), (4, .int r16), (0, .ref (ad 30)), (1, .int x), (2, .int i), (3, .int k)]) hx hb dX2_slide_41 hl (by decide) rfl (fun ls hl => ?_)
      refine lv_iload_n hx hb dX2_slide_43 rfl (lv_at hl 5 rfl) ?_
      refine lv_iconst (v := 0) hx hb dX2_slide_44 (by decide) ?_
      refine lv_iload hx hb dX2_slide_45 (lv_at hl 1 rfl) ?_
      refine vp_callSi (W.runS (As := [.int i, .int 0, .int (nI (sV mk Z (Hg a)))]) (rest := []) ⟨hx, hb, hml, hown, hts⟩ (c_X2_outside l i 0 (nI (sV mk Z (Hg a))) ) (va_cwS 3 hts gX2_slide_X2_outside rfl rfl rfl (by decide +kernel) ⟨Nat.le_of_ble_eq_true rfl, Nat.le_of_ble_eq_true rfl⟩) ⟨fb0, fun U hU hW => ⟨rfl, trivial⟩⟩ rfl rfl hl.1 rfl (lv_room (Nat.le_of_ble_eq_true rfl)) dX2_slide_47 ⟨Nat.le_of_ble_eq_true rfl, Nat.le_of_ble_eq_true rfl⟩) (fun r47 hw47 => ?_)
      rcases hw47 with ⟨rfl, h47⟩ | ⟨rfl, h47⟩
      · skip
        refine lv_if_ne (tgt := 69) hx hb dX2_slide_50 (by decide) (fun c50 => ?_) (fun c50 => absurd c50 (by decide))
        refine lv_iconst (v := 3) hx hb dX2_slide_69 (by decide) ?_
        exact W.iret (v := 3) hx hb hr (fun t ht _ => ⟨⟨_, (0, ce, as), rfl, Or.inr ⟨rfl, a, _, ha, ea, rowIs_rf _ _, Or.inr (Or.inr (Or.inl ⟨hrow.1, hrow.2, h47.elim Or.inl (fun q => Or.inr (Or.inl q)), rfl, rfl⟩))⟩, by rw [ht]; exact hP, hD⟩, hS.F ht⟩) hS.2.2 dX2_slide_70
      · skip
        refine lv_if_ne (tgt := 69) hx hb dX2_slide_50 (by decide) (fun c50 => absurd c50 (by decide)) (fun c50 => ?_)
        refine lv_lload hx hb dX2_slide_53 (lv_at hl 0 rfl) ?_
        refine lv_lconst (v := 0) hx hb dX2_slide_55 (by decide) ?_
        refine lv_lcmp3 hx hb dX2_slide_56 (fun x_2 ex_2 => ?_)
        refine lv_if_lt (tgt := 69) hx hb dX2_slide_57 (by decide) (fun c57 => ?_) (fun c57 => ?_)
        · skip
          refine lv_iconst (v := 3) hx hb dX2_slide_69 (by decide) ?_
          exact W.iret (v := 3) hx hb hr (fun t ht _ => ⟨⟨_, (0, ce, as), rfl, Or.inr ⟨rfl, a, _, ha, ea, rowIs_rf _ _, Or.inr (Or.inr (Or.inl ⟨hrow.1, hrow.2, Or.inr (Or.inr (Or.inl (by rw [← ey_1]; exact lc_lt ex_2 c57))), rfl, rfl⟩))⟩, by rw [ht]; exact hP, hD⟩, hS.F ht⟩) hS.2.2 dX2_slide_70
        · skip
          refine lv_lload hx hb dX2_slide_60 (lv_at hl 0 rfl) ?_
          refine lv_iload hx hb dX2_slide_62 (lv_at hl 1 rfl) ?_
          refine lv_i2l hx hb dX2_slide_64 rfl ?_
          refine lv_lcmp3 hx hb dX2_slide_65 (fun x_3 ex_3 => ?_)
          refine lv_if_le (tgt := 71) hx hb dX2_slide_66 (by decide) (fun c66 => ?_) (fun c66 => ?_)
          · skip
            have hta := hd_9 hH ha (mV_n4 hrow.2)
            obtain ⟨J, eJ, hJ, hsl1, hsl2⟩ := sl_in hS40 h47.1 h47.2 (by rw [← ey_1]; exact lc_nlt ex_2 c57) (by rw [← ey_1]; exact sl_ngt ex_3 c66)
            refine lv_bipush (v := 40) hx hb dX2_slide_71 (by decide) ?_
            refine lv_aload_n hx hb dX2_slide_73 rfl (lv_at hl 3 rfl) ?_
            refine va_get (D := D) (ci := 2) (C := RX2) (T := TX2) (N := 9) hx hb hts hin2 hown hK hP 0 rfl rfl 1 (by decide) (hts (.fieldLink RX2 9 "DutyRotaModel" "held" "[I") (by decide +kernel)) (fun _ h9 => h9) rfl dX2_slide_74 ?_
            refine lv_iload_n hx hb dX2_slide_77 rfl (lv_at hl 4 rfl) ?_
            refine rw_ild hx hb hK hP 1 0 rfl rfl (j := a) (ea) (ha) (by decide) dX2_slide_78 ?_
            refine rw_topi (y := (nI (Hg a))) (hta.2) ?_
            refine lv_imul hx hb dX2_slide_79 ?_
            refine rw_topi (y := (nI (40 * Hg a))) (ix40' _) ?_
            refine lv_istore (lv' := [(8, .int (nI (40 * Hg a))), (6, .long y_1), (5, .int (nI (sV mk Z (Hg a)))), (4, .int r16), (0, .ref (ad 30)), (1, .int x), (2, .int i), (3, .int k)]) hx hb dX2_slide_80 hl (by decide) rfl (fun ls hl => ?_)
            refine lv_iconst (v := 0) hx hb dX2_slide_82 (by decide) ?_
            refine lv_istore (lv' := [(9, .int 0), (8, .int (nI (40 * Hg a))), (6, .long y_1), (5, .int (nI (sV mk Z (Hg a)))), (4, .int r16), (0, .ref (ad 30)), (1, .int x), (2, .int i), (3, .int k)]) hx hb dX2_slide_83 hl (by decide) rfl (fun ls hl => ?_)
            have loop85 : ∀ (d85 : Nat) (q : Nat) (as1 : Nat → Int64) (hd85 : sV mk Z (Hg a) + 1 ≤ q + d85) (hq : q ≤ sV mk Z (Hg a)) (has : ∀ p, p < q → as1 p = rV ce (Hg a) p) (H : Heap) (locs : List Loc) (hP : va_P D vwCl (wM ci ad 0 hd mk sz ce as1 np kd pu ++ F) H) (hD : va_D (LA z) (wM ci ad 0 hd mk sz ce as1 np kd pu ++ F)) (hS : va_S (LA z) s.heap H locs) (ls : Array Slot) (hl : lv_has ls 12 [(9, .int (nI q)), (8, .int (nI (40 * Hg a))), (6, .long y_1), (5, .int (nI (sV mk Z (Hg a)))), (4, .int r16), (0, .ref (ad 30)), (1, .int x), (2, .int i), (3, .int k)]), W p l e ({ frames := 2, cells := 0, slots := 0, locals := 43 } : Room) s m ([.ref (ad 30), .int x, .int i, .int k] : List Value).toArray below meth c H locs 0 0 (MQ below (va_Qi (fun (r : Int32) (u : Int32 × (Nat → Int64) × (Nat → Int64)) => (u.1 = 1 ∧ badH x ∧ u.2.1 = ce) ∨ (u.1 = 0 ∧ ∃ a f, a < 8 ∧ x = nI a ∧ rowIs ce (Hg a) f u.2.1 ∧ slideP (mV mk (Hg a)) (sV mk Z (Hg a)) (rV ce (Hg a)) i k r f)) (fun u t => va_P D vwCl (wM ci ad u.1 hd mk sz u.2.1 u.2.2 np kd pu ++ F) t.heap ∧ va_D (LA z) (wM ci ad u.1 hd mk sz u.2.1 u.2.2 np kd pu ++ F)) (LA z)) ([.ref (ad 30), .int x, .int i, .int k] : List Value).toArray s 0 0 (LA z)) (F0 m 85 ls []) := by
              intro d85
              induction d85 with
              | zero => intro q as1 hd85 hq has H locs hP hD hS ls hl; exact absurd hd85 (by omega)
              | succ d85 ih85 =>
                intro q as1 hd85 hq has H locs hP hD hS ls hl
                refine lv_iload hx hb dX2_slide_85 (lv_at hl 0 rfl) ?_
                refine lv_iload hx hb dX2_slide_87 (lv_at hl 3 rfl) ?_
                refine lv_icmp_ge (tgt := 115) hx hb dX2_slide_89 (by decide) (fun c89 => ?_) (fun c89 => ?_)
                · skip
                  have hE9 : q = sV mk Z (Hg a) := by have := nI_ge_of c89 (by omega) (by omega); omega
                  refine lv_iload_n hx hb dX2_slide_115 rfl (lv_at hl 8 rfl) ?_
                  refine lv_if_ge (tgt := 125) hx hb dX2_slide_116 (by decide) (fun c116 => ?_) (fun c116 => ?_)
                  · skip
                    obtain ⟨B, eB, hBJ⟩ := hsl1 (Int32.not_lt.mpr c116)
                    refine lv_iload_n hx hb dX2_slide_125 rfl (lv_at hl 7 rfl) ?_
                    refine rw_topi (y := (nI J)) (eJ) ?_
                    refine lv_istore (lv' := [(9, .int (nI J)), (8, .int (nI (40 * Hg a))), (6, .long y_1), (5, .int (nI (sV mk Z (Hg a)))), (4, .int r16), (0, .ref (ad 30)), (1, .int x), (2, .int i), (3, .int k)]) hx hb dX2_slide_126 hl (by decide) rfl (fun ls hl => ?_)
                    refine lv_iload hx hb dX2_slide_128 (lv_at hl 0 rfl) ?_
                    refine lv_istore (lv' := [(10, .int (nI J)), (9, .int (nI J)), (8, .int (nI (40 * Hg a))), (6, .long y_1), (5, .int (nI (sV mk Z (Hg a)))), (4, .int r16), (0, .ref (ad 30)), (1, .int x), (2, .int i), (3, .int k)]) hx hb dX2_slide_130 hl (by decide) rfl (fun ls hl => ?_)
                    have loop132 : ∀ (d132 : Nat) (g : Nat) (ce1 : Nat → Int64) (hd132 : sV mk Z (Hg a) + 1 ≤ g + d132) (hp1 : J ≤ g) (hp2 : g ≤ sV mk Z (Hg a)) (hce : rowIs ce (Hg a) (part (rV ce (Hg a)) (slL (mV mk (Hg a)) (sV mk Z (Hg a)) (rV ce (Hg a)) J B) J g) ce1) (H : Heap) (locs : List Loc) (hP : va_P D vwCl (wM ci ad 0 hd mk sz ce1 as1 np kd pu ++ F) H) (hD : va_D (LA z) (wM ci ad 0 hd mk sz ce1 as1 np kd pu ++ F)) (hS : va_S (LA z) s.heap H locs) (ls : Array Slot) (hl : lv_has ls 12 [(10, .int (nI g)), (9, .int (nI J)), (8, .int (nI (40 * Hg a))), (6, .long y_1), (5, .int (nI (sV mk Z (Hg a)))), (4, .int r16), (0, .ref (ad 30)), (1, .int x), (2, .int i), (3, .int k)]), W p l e ({ frames := 2, cells := 0, slots := 0, locals := 43 } : Room) s m ([.ref (ad 30), .int x, .int i, .int k] : List Value).toArray below meth c H locs 0 0 (MQ below (va_Qi (fun (r : Int32) (u : Int32 × (Nat → Int64) × (Nat → Int64)) => (u.1 = 1 ∧ badH x ∧ u.2.1 = ce) ∨ (u.1 = 0 ∧ ∃ a f, a < 8 ∧ x = nI a ∧ rowIs ce (Hg a) f u.2.1 ∧ slideP (mV mk (Hg a)) (sV mk Z (Hg a)) (rV ce (Hg a)) i k r f)) (fun u t => va_P D vwCl (wM ci ad u.1 hd mk sz u.2.1 u.2.2 np kd pu ++ F) t.heap ∧ va_D (LA z) (wM ci ad u.1 hd mk sz u.2.1 u.2.2 np kd pu ++ F)) (LA z)) ([.ref (ad 30), .int x, .int i, .int k] : List Value).toArray s 0 0 (LA z)) (F0 m 132 ls []) := by
                      intro d132
                      induction d132 with
                      | zero => intro g ce1 hd132 hp1 hp2 hce H locs hP hD hS ls hl; exact absurd hd132 (by omega)
                      | succ d132 ih132 =>
                        intro g ce1 hd132 hp1 hp2 hce H locs hP hD hS ls hl
                        refine lv_iload hx hb dX2_slide_132 (lv_at hl 0 rfl) ?_
                        refine lv_iload hx hb dX2_slide_134 (lv_at hl 4 rfl) ?_
                        refine lv_icmp_ge (tgt := 198) hx hb dX2_slide_136 (by decide) (fun c136 => ?_) (fun c136 => ?_)
                        · skip
                          have hE9 : g = sV mk Z (Hg a) := by have := nI_ge_of c136 (by omega) (by omega); omega
                          refine lv_iconst (v := 0) hx hb dX2_slide_198 (by decide) ?_
                          exact W.iret (v := 0) hx hb hr (fun t ht _ => ⟨⟨_, (0, ce1, as1), rfl, Or.inr ⟨rfl, a, _, ha, ea, by have h9 := hce; rw [hE9, part_L hBJ] at h9; exact h9, Or.inr (Or.inr (Or.inr ⟨hrow.1, hrow.2, J, B, eJ, rfl, Or.inl ⟨eB, hBJ, rfl⟩⟩))⟩, by rw [ht]; exact hP, hD⟩, hS.F ht⟩) hS.2.2 dX2_slide_199
                        · skip
                          have hE9 : g < sV mk Z (Hg a) := nI_lt_of c136 (by omega) (by omega)
                          refine lv_iload hx hb dX2_slide_139 (lv_at hl 0 rfl) ?_
                          refine lv_iload_n hx hb dX2_slide_141 rfl (lv_at hl 9 rfl) ?_
                          refine lv_isub hx hb dX2_slide_142 ?_
                          refine rw_topi (y := (nI g - nI B)) (by rw [eB]) ?_
                          refine lv_istore (lv' := [(11, .int (nI g - nI B)), (10, .int (nI g)), (9, .int (nI J)), (8, .int (nI (40 * Hg a))), (6, .long y_1), (5, .int (nI (sV mk Z (Hg a)))), (4, .int r16), (0, .ref (ad 30)), (1, .int x), (2, .int i), (3, .int k)]) hx hb dX2_slide_143 hl (by decide) rfl (fun ls hl => ?_)
                          refine lv_aload_n hx hb dX2_slide_145 rfl (lv_at hl 7 rfl) ?_
                          refine va_get (D := D) (ci := 2) (C := RX2) (T := TX2) (N := 9) hx hb hts hin2 hown hK hP 0 rfl rfl 4 (by decide) (hts (.fieldLink RX2 19 "DutyRotaModel" "cells" "[J") (by decide +kernel)) (fun _ h9 => h9) rfl dX2_slide_146 ?_
                          refine lv_iload hx hb dX2_slide_149 (lv_at hl 3 rfl) ?_
                          refine lv_iload hx hb dX2_slide_151 (lv_at hl 1 rfl) ?_
                          refine lv_iadd hx hb dX2_slide_153 ?_
                          refine rw_topi (y := (nI (40 * Hg a + g))) (nI_add _ _) ?_
                          refine lv_iload hx hb dX2_slide_154 (lv_at hl 0 rfl) ?_
                          refine lv_iload_n hx hb dX2_slide_156 rfl (lv_at hl 9 rfl) ?_
                          refine lv_icmp_lt (tgt := 177) hx hb dX2_slide_157 (by decide) (fun c157 => ?_) (fun c157 => ?_)
                          · skip
                            have hlt : g < J + B := by rw [eJ, sub_lt (by omega) (by omega) (by omega)] at c157; omega
                            refine lv_aload_n hx hb dX2_slide_177 rfl (lv_at hl 7 rfl) ?_
                            refine va_get (D := D) (ci := 2) (C := RX2) (T := TX2) (N := 9) hx hb hts hin2 hown hK hP 0 rfl rfl 2 (by decide) (hts (.fieldLink RX2 13 "DutyRotaModel" "makes" "[I") (by decide +kernel)) (fun _ h9 => h9) rfl dX2_slide_178 ?_
                            refine lv_aload_n hx hb dX2_slide_181 rfl (lv_at hl 7 rfl) ?_
                            refine va_get (D := D) (ci := 2) (C := RX2) (T := TX2) (N := 9) hx hb hts hin2 hown hK hP 0 rfl rfl 1 (by decide) (hts (.fieldLink RX2 9 "DutyRotaModel" "held" "[I") (by decide +kernel)) (fun _ h9 => h9) rfl dX2_slide_182 ?_
                            refine lv_iload_n hx hb dX2_slide_185 rfl (lv_at hl 8 rfl) ?_
                            refine rw_ild hx hb hK hP 1 0 rfl rfl (j := a) (ea) (ha) (by decide) dX2_slide_186 ?_
                            refine rw_topi (y := (nI (Hg a))) (hta.2) ?_
                            refine rw_ild hx hb hK hP 2 0 rfl rfl (j := (Hg a)) (rfl) (hta.1) (by decide) dX2_slide_187 ?_
                            refine rw_topi (y := (mV mk (Hg a))) ((mV_t hta.1).symm) ?_
                            refine vp_callSl (W.runS (As := [.int (mV mk (Hg a))]) (rest := [.int (nI (40 * Hg a + g)), .ref (ad 34)]) ⟨hx, hb, hml, hown, hts⟩ (c_X2_blank l (mV mk (Hg a)) ) (va_cwS 1 hts gX2_slide_X2_blank rfl rfl rfl (by decide +kernel) ⟨Nat.le_of_ble_eq_true rfl, Nat.le_of_ble_eq_true rfl⟩) ⟨fb0, fun U hU hW => ⟨rfl, trivial⟩⟩ rfl rfl hl.1 rfl (lv_room (Nat.le_of_ble_eq_true rfl)) dX2_slide_188 ⟨Nat.le_of_ble_eq_true rfl, Nat.le_of_ble_eq_true rfl⟩) (fun r188 hw188 => ?_)
                            subst hw188
                            refine rw_lst hx hb hK hP hD hS 4 1 rfl rfl (j := (40 * Hg a + g)) (rfl) (by omega) (by decide) (ws' := wM ci ad 0 hd mk sz (vp_updL ce1 (40 * Hg a + g) (blankV (mV mk (Hg a)))) as1 np kd pu ++ F) rfl dX2_slide_191 (fun H locs hP hD hS => ?_)
                            refine lv_iinc (v := (nI (g + 1))) (lv' := [(10, .int (nI (g + 1))), (11, .int (nI g - nI B)), (9, .int (nI J)), (8, .int (nI (40 * Hg a))), (6, .long y_1), (5, .int (nI (sV mk Z (Hg a)))), (4, .int r16), (0, .ref (ad 30)), (1, .int x), (2, .int i), (3, .int k)]) hx hb dX2_slide_192 hl (k := 1) rfl (nI_1 _) (by decide) rfl (fun ls hl => ?_)
                            refine lv_goto (tgt := 132) hx hb dX2_slide_195 (by decide) ?_
                            exact ih132 (g + 1) (vp_updL ce1 (40 * Hg a + g) (blankV (mV mk (Hg a)))) (by omega) (by omega) (by omega) (by rw [← part_s hp1 (slL_b hp1 hlt)]; exact rowIs_up hce (by omega) _) H locs hP hD hS ls (lv_sub hl [0, 2, 3, 4, 5, 6, 7, 8, 9, 10] rfl)
                          · skip
                            have hge : J + B ≤ g := by rw [eJ, sub_lt (by omega) (by omega) (by omega)] at c157; omega
                            refine lv_iload hx hb dX2_slide_160 (lv_at hl 0 rfl) ?_
                            refine lv_iload hx hb dX2_slide_162 (lv_at hl 5 rfl) ?_
                            refine lv_icmp_ge (tgt := 177) hx hb dX2_slide_164 (by decide) (fun c164 => by exact absurd c164 (by rw [sub_ge (by omega) (by omega) (by omega)]; omega)) (fun c164 => ?_)
                            refine lv_aload_n hx hb dX2_slide_167 rfl (lv_at hl 7 rfl) ?_
                            refine va_get (D := D) (ci := 2) (C := RX2) (T := TX2) (N := 9) hx hb hts hin2 hown hK hP 0 rfl rfl 5 (by decide) (hts (.fieldLink RX2 23 "DutyRotaModel" "aside" "[J") (by decide +kernel)) (fun _ h9 => h9) rfl dX2_slide_168 ?_
                            refine lv_iload hx hb dX2_slide_171 (lv_at hl 0 rfl) ?_
                            refine rw_lld hx hb hK hP 5 1 rfl rfl (j := (g - B)) (pk_sub (by omega)) (by omega) (by decide) dX2_slide_173 ?_
                            refine rw_topl (y := (rV ce (Hg a) (g - B))) (has _ (by omega)) ?_
                            refine lv_goto (tgt := 191) hx hb dX2_slide_174 (by decide) ?_
                            refine rw_lst hx hb hK hP hD hS 4 1 rfl rfl (j := (40 * Hg a + g)) (rfl) (by omega) (by decide) (ws' := wM ci ad 0 hd mk sz (vp_updL ce1 (40 * Hg a + g) (rV ce (Hg a) (g - B))) as1 np kd pu ++ F) rfl dX2_slide_191 (fun H locs hP hD hS => ?_)
                            refine lv_iinc (v := (nI (g + 1))) (lv' := [(10, .int (nI (g + 1))), (11, .int (nI g - nI B)), (9, .int (nI J)), (8, .int (nI (40 * Hg a))), (6, .long y_1), (5, .int (nI (sV mk Z (Hg a)))), (4, .int r16), (0, .ref (ad 30)), (1, .int x), (2, .int i), (3, .int k)]) hx hb dX2_slide_192 hl (k := 1) rfl (nI_1 _) (by decide) rfl (fun ls hl => ?_)
                            refine lv_goto (tgt := 132) hx hb dX2_slide_195 (by decide) ?_
                            exact ih132 (g + 1) (vp_updL ce1 (40 * Hg a + g) (rV ce (Hg a) (g - B))) (by omega) (by omega) (by omega) (by rw [← part_s hp1 (slL_f hge (by omega))]; exact rowIs_up hce (by omega) _) H locs hP hD hS ls (lv_sub hl [0, 2, 3, 4, 5, 6, 7, 8, 9, 10] rfl)
                    exact loop132 (sV mk Z (Hg a) + 1) J ce (by omega) (by omega) (by omega) (by rw [part_0]; exact rowIs_rf _ _) H locs hP hD hS ls (lv_sub hl [0, 1, 2, 3, 4, 5, 6, 7, 8, 9] rfl)
                  · skip
                    obtain ⟨B, eB, hB0, hBJ⟩ := hsl2 (Int32.not_le.mp c116)
                    refine lv_lload hx hb dX2_slide_119 (lv_at hl 2 rfl) ?_
                    refine lv_l2i hx hb dX2_slide_121 rfl ?_
                    refine rw_topi (y := (nI (J - B))) (by rw [ey_1, to_i, eJ, eB]; exact neg_sub hBJ) ?_
                    refine lv_goto (tgt := 126) hx hb dX2_slide_122 (by decide) ?_
                    refine lv_istore (lv' := [(9, .int (nI (J - B))), (8, .int (nI (40 * Hg a))), (6, .long y_1), (5, .int (nI (sV mk Z (Hg a)))), (4, .int r16), (0, .ref (ad 30)), (1, .int x), (2, .int i), (3, .int k)]) hx hb dX2_slide_126 hl (by decide) rfl (fun ls hl => ?_)
                    refine lv_iload hx hb dX2_slide_128 (lv_at hl 0 rfl) ?_
                    refine lv_istore (lv' := [(10, .int (nI (J - B))), (9, .int (nI (J - B))), (8, .int (nI (40 * Hg a))), (6, .long y_1), (5, .int (nI (sV mk Z (Hg a)))), (4, .int r16), (0, .ref (ad 30)), (1, .int x), (2, .int i), (3, .int k)]) hx hb dX2_slide_130 hl (by decide) rfl (fun ls hl => ?_)
                    have loop132 : ∀ (d132 : Nat) (g : Nat) (ce1 : Nat → Int64) (hd132 : sV mk Z (Hg a) + 1 ≤ g + d132) (hp1 : (J - B) ≤ g) (hp2 : g ≤ sV mk Z (Hg a)) (hce : rowIs ce (Hg a) (part (rV ce (Hg a)) (slE (mV mk (Hg a)) (sV mk Z (Hg a)) (rV ce (Hg a)) J B) (J - B) g) ce1) (H : Heap) (locs : List Loc) (hP : va_P D vwCl (wM ci ad 0 hd mk sz ce1 as1 np kd pu ++ F) H) (hD : va_D (LA z) (wM ci ad 0 hd mk sz ce1 as1 np kd pu ++ F)) (hS : va_S (LA z) s.heap H locs) (ls : Array Slot) (hl : lv_has ls 12 [(10, .int (nI g)), (9, .int (nI (J - B))), (8, .int (nI (40 * Hg a))), (6, .long y_1), (5, .int (nI (sV mk Z (Hg a)))), (4, .int r16), (0, .ref (ad 30)), (1, .int x), (2, .int i), (3, .int k)]), W p l e ({ frames := 2, cells := 0, slots := 0, locals := 43 } : Room) s m ([.ref (ad 30), .int x, .int i, .int k] : List Value).toArray below meth c H locs 0 0 (MQ below (va_Qi (fun (r : Int32) (u : Int32 × (Nat → Int64) × (Nat → Int64)) => (u.1 = 1 ∧ badH x ∧ u.2.1 = ce) ∨ (u.1 = 0 ∧ ∃ a f, a < 8 ∧ x = nI a ∧ rowIs ce (Hg a) f u.2.1 ∧ slideP (mV mk (Hg a)) (sV mk Z (Hg a)) (rV ce (Hg a)) i k r f)) (fun u t => va_P D vwCl (wM ci ad u.1 hd mk sz u.2.1 u.2.2 np kd pu ++ F) t.heap ∧ va_D (LA z) (wM ci ad u.1 hd mk sz u.2.1 u.2.2 np kd pu ++ F)) (LA z)) ([.ref (ad 30), .int x, .int i, .int k] : List Value).toArray s 0 0 (LA z)) (F0 m 132 ls []) := by
                      intro d132
                      induction d132 with
                      | zero => intro g ce1 hd132 hp1 hp2 hce H locs hP hD hS ls hl; exact absurd hd132 (by omega)
                      | succ d132 ih132 =>
                        intro g ce1 hd132 hp1 hp2 hce H locs hP hD hS ls hl
                        refine lv_iload hx hb dX2_slide_132 (lv_at hl 0 rfl) ?_
                        refine lv_iload hx hb dX2_slide_134 (lv_at hl 4 rfl) ?_
                        refine lv_icmp_ge (tgt := 198) hx hb dX2_slide_136 (by decide) (fun c136 => ?_) (fun c136 => ?_)
                        · skip
                          have hE9 : g = sV mk Z (Hg a) := by have := nI_ge_of c136 (by omega) (by omega); omega
                          refine lv_iconst (v := 0) hx hb dX2_slide_198 (by decide) ?_
                          exact W.iret (v := 0) hx hb hr (fun t ht _ => ⟨⟨_, (0, ce1, as1), rfl, Or.inr ⟨rfl, a, _, ha, ea, by have h9 := hce; rw [hE9, part_E hBJ hJ] at h9; exact h9, Or.inr (Or.inr (Or.inr ⟨hrow.1, hrow.2, J, B, eJ, rfl, Or.inr ⟨eB, hB0, hBJ, hJ, rfl⟩⟩))⟩, by rw [ht]; exact hP, hD⟩, hS.F ht⟩) hS.2.2 dX2_slide_199
                        · skip
                          have hE9 : g < sV mk Z (Hg a) := nI_lt_of c136 (by omega) (by omega)
                          refine lv_iload hx hb dX2_slide_139 (lv_at hl 0 rfl) ?_
                          refine lv_iload_n hx hb dX2_slide_141 rfl (lv_at hl 9 rfl) ?_
                          refine lv_isub hx hb dX2_slide_142 ?_
                          refine rw_topi (y := (nI (g + B))) (by rw [eB]; exact sub_neg') ?_
                          refine lv_istore (lv' := [(11, .int (nI (g + B))), (10, .int (nI g)), (9, .int (nI (J - B))), (8, .int (nI (40 * Hg a))), (6, .long y_1), (5, .int (nI (sV mk Z (Hg a)))), (4, .int r16), (0, .ref (ad 30)), (1, .int x), (2, .int i), (3, .int k)]) hx hb dX2_slide_143 hl (by decide) rfl (fun ls hl => ?_)
                          refine lv_aload_n hx hb dX2_slide_145 rfl (lv_at hl 7 rfl) ?_
                          refine va_get (D := D) (ci := 2) (C := RX2) (T := TX2) (N := 9) hx hb hts hin2 hown hK hP 0 rfl rfl 4 (by decide) (hts (.fieldLink RX2 19 "DutyRotaModel" "cells" "[J") (by decide +kernel)) (fun _ h9 => h9) rfl dX2_slide_146 ?_
                          refine lv_iload hx hb dX2_slide_149 (lv_at hl 3 rfl) ?_
                          refine lv_iload hx hb dX2_slide_151 (lv_at hl 1 rfl) ?_
                          refine lv_iadd hx hb dX2_slide_153 ?_
                          refine rw_topi (y := (nI (40 * Hg a + g))) (nI_add _ _) ?_
                          refine lv_iload hx hb dX2_slide_154 (lv_at hl 0 rfl) ?_
                          refine lv_iload_n hx hb dX2_slide_156 rfl (lv_at hl 9 rfl) ?_
                          refine lv_icmp_lt (tgt := 177) hx hb dX2_slide_157 (by decide) (fun c157 => by exact absurd c157 (by rw [eJ]; exact nI_nlt (by omega) (by omega))) (fun c157 => ?_)
                          refine lv_iload hx hb dX2_slide_160 (lv_at hl 0 rfl) ?_
                          refine lv_iload hx hb dX2_slide_162 (lv_at hl 5 rfl) ?_
                          refine lv_icmp_ge (tgt := 177) hx hb dX2_slide_164 (by decide) (fun c164 => ?_) (fun c164 => ?_)
                          · skip
                            have hge : sV mk Z (Hg a) ≤ g + B := nI_ge_of c164 (by omega) (by omega)
                            refine lv_aload_n hx hb dX2_slide_177 rfl (lv_at hl 7 rfl) ?_
                            refine va_get (D := D) (ci := 2) (C := RX2) (T := TX2) (N := 9) hx hb hts hin2 hown hK hP 0 rfl rfl 2 (by decide) (hts (.fieldLink RX2 13 "DutyRotaModel" "makes" "[I") (by decide +kernel)) (fun _ h9 => h9) rfl dX2_slide_178 ?_
                            refine lv_aload_n hx hb dX2_slide_181 rfl (lv_at hl 7 rfl) ?_
                            refine va_get (D := D) (ci := 2) (C := RX2) (T := TX2) (N := 9) hx hb hts hin2 hown hK hP 0 rfl rfl 1 (by decide) (hts (.fieldLink RX2 9 "DutyRotaModel" "held" "[I") (by decide +kernel)) (fun _ h9 => h9) rfl dX2_slide_182 ?_
                            refine lv_iload_n hx hb dX2_slide_185 rfl (lv_at hl 8 rfl) ?_
                            refine rw_ild hx hb hK hP 1 0 rfl rfl (j := a) (ea) (ha) (by decide) dX2_slide_186 ?_
                            refine rw_topi (y := (nI (Hg a))) (hta.2) ?_
                            refine rw_ild hx hb hK hP 2 0 rfl rfl (j := (Hg a)) (rfl) (hta.1) (by decide) dX2_slide_187 ?_
                            refine rw_topi (y := (mV mk (Hg a))) ((mV_t hta.1).symm) ?_
                            refine vp_callSl (W.runS (As := [.int (mV mk (Hg a))]) (rest := [.int (nI (40 * Hg a + g)), .ref (ad 34)]) ⟨hx, hb, hml, hown, hts⟩ (c_X2_blank l (mV mk (Hg a)) ) (va_cwS 1 hts gX2_slide_X2_blank rfl rfl rfl (by decide +kernel) ⟨Nat.le_of_ble_eq_true rfl, Nat.le_of_ble_eq_true rfl⟩) ⟨fb0, fun U hU hW => ⟨rfl, trivial⟩⟩ rfl rfl hl.1 rfl (lv_room (Nat.le_of_ble_eq_true rfl)) dX2_slide_188 ⟨Nat.le_of_ble_eq_true rfl, Nat.le_of_ble_eq_true rfl⟩) (fun r188 hw188 => ?_)
                            subst hw188
                            refine rw_lst hx hb hK hP hD hS 4 1 rfl rfl (j := (40 * Hg a + g)) (rfl) (by omega) (by decide) (ws' := wM ci ad 0 hd mk sz (vp_updL ce1 (40 * Hg a + g) (blankV (mV mk (Hg a)))) as1 np kd pu ++ F) rfl dX2_slide_191 (fun H locs hP hD hS => ?_)
                            refine lv_iinc (v := (nI (g + 1))) (lv' := [(10, .int (nI (g + 1))), (11, .int (nI (g + B))), (9, .int (nI (J - B))), (8, .int (nI (40 * Hg a))), (6, .long y_1), (5, .int (nI (sV mk Z (Hg a)))), (4, .int r16), (0, .ref (ad 30)), (1, .int x), (2, .int i), (3, .int k)]) hx hb dX2_slide_192 hl (k := 1) rfl (nI_1 _) (by decide) rfl (fun ls hl => ?_)
                            refine lv_goto (tgt := 132) hx hb dX2_slide_195 (by decide) ?_
                            exact ih132 (g + 1) (vp_updL ce1 (40 * Hg a + g) (blankV (mV mk (Hg a)))) (by omega) (by omega) (by omega) (by rw [← part_s hp1 (slE_b hp1 (by omega) (by omega))]; exact rowIs_up hce (by omega) _) H locs hP hD hS ls (lv_sub hl [0, 2, 3, 4, 5, 6, 7, 8, 9, 10] rfl)
                          · skip
                            have hlt : g + B < sV mk Z (Hg a) := nI_lt_of c164 (by omega) (by omega)
                            refine lv_aload_n hx hb dX2_slide_167 rfl (lv_at hl 7 rfl) ?_
                            refine va_get (D := D) (ci := 2) (C := RX2) (T := TX2) (N := 9) hx hb hts hin2 hown hK hP 0 rfl rfl 5 (by decide) (hts (.fieldLink RX2 23 "DutyRotaModel" "aside" "[J") (by decide +kernel)) (fun _ h9 => h9) rfl dX2_slide_168 ?_
                            refine lv_iload hx hb dX2_slide_171 (lv_at hl 0 rfl) ?_
                            refine rw_lld hx hb hK hP 5 1 rfl rfl (j := (g + B)) (rfl) (by omega) (by decide) dX2_slide_173 ?_
                            refine rw_topl (y := (rV ce (Hg a) (g + B))) (has _ (by omega)) ?_
                            refine lv_goto (tgt := 191) hx hb dX2_slide_174 (by decide) ?_
                            refine rw_lst hx hb hK hP hD hS 4 1 rfl rfl (j := (40 * Hg a + g)) (rfl) (by omega) (by decide) (ws' := wM ci ad 0 hd mk sz (vp_updL ce1 (40 * Hg a + g) (rV ce (Hg a) (g + B))) as1 np kd pu ++ F) rfl dX2_slide_191 (fun H locs hP hD hS => ?_)
                            refine lv_iinc (v := (nI (g + 1))) (lv' := [(10, .int (nI (g + 1))), (11, .int (nI (g + B))), (9, .int (nI (J - B))), (8, .int (nI (40 * Hg a))), (6, .long y_1), (5, .int (nI (sV mk Z (Hg a)))), (4, .int r16), (0, .ref (ad 30)), (1, .int x), (2, .int i), (3, .int k)]) hx hb dX2_slide_192 hl (k := 1) rfl (nI_1 _) (by decide) rfl (fun ls hl => ?_)
                            refine lv_goto (tgt := 132) hx hb dX2_slide_195 (by decide) ?_
                            exact ih132 (g + 1) (vp_updL ce1 (40 * Hg a + g) (rV ce (Hg a) (g + B))) (by omega) (by omega) (by omega) (by rw [← part_s hp1 (slE_f hp1 (by omega))]; exact rowIs_up hce (by omega) _) H locs hP hD hS ls (lv_sub hl [0, 2, 3, 4, 5, 6, 7, 8, 9, 10] rfl)
                    exact loop132 (sV mk Z (Hg a) + 1) (J - B) ce (by omega) (by omega) (by omega) (by rw [part_0]; exact rowIs_rf _ _) H locs hP hD hS ls (lv_sub hl [0, 1, 2, 3, 4, 5, 6, 7, 8, 9] rfl)
                · skip
                  have hE9 : q < sV mk Z (Hg a) := nI_lt_of c89 (by omega) (by omega)
                  refine lv_aload_n hx hb dX2_slide_92 rfl (lv_at hl 5 rfl) ?_
                  refine va_get (D := D) (ci := 2) (C := RX2) (T := TX2) (N := 9) hx hb hts hin2 hown hK hP 0 rfl rfl 5 (by decide) (hts (.fieldLink RX2 23 "DutyRotaModel" "aside" "[J") (by decide +kernel)) (fun _ h9 => h9) rfl dX2_slide_93 ?_
                  refine lv_iload hx hb dX2_slide_96 (lv_at hl 0 rfl) ?_
                  refine lv_aload_n hx hb dX2_slide_98 rfl (lv_at hl 5 rfl) ?_
                  refine va_get (D := D) (ci := 2) (C := RX2) (T := TX2) (N := 9) hx hb hts hin2 hown hK hP 0 rfl rfl 4 (by decide) (hts (.fieldLink RX2 19 "DutyRotaModel" "cells" "[J") (by decide +kernel)) (fun _ h9 => h9) rfl dX2_slide_99 ?_
                  refine lv_iload hx hb dX2_slide_102 (lv_at hl 1 rfl) ?_
                  refine lv_iload hx hb dX2_slide_104 (lv_at hl 0 rfl) ?_
                  refine lv_iadd hx hb dX2_slide_106 ?_
                  refine rw_topi (y := (nI (40 * Hg a + q))) (nI_add _ _) ?_
                  refine rw_lld hx hb hK hP 4 1 rfl rfl (j := (40 * Hg a + q)) (rfl) (by omega) (by decide) dX2_slide_107 ?_
                  refine rw_lst hx hb hK hP hD hS 5 1 rfl rfl (j := q) (rfl) (by omega) (by decide) (ws' := wM ci ad 0 hd mk sz ce (vp_updL as1 q (ce (40 * Hg a + q))) np kd pu ++ F) rfl dX2_slide_108 (fun H locs hP hD hS => ?_)
                  refine lv_iinc (v := (nI (q + 1))) (lv' := [(9, .int (nI (q + 1))), (8, .int (nI (40 * Hg a))), (6, .long y_1), (5, .int (nI (sV mk Z (Hg a)))), (4, .int r16), (0, .ref (ad 30)), (1, .int x), (2, .int i), (3, .int k)]) hx hb dX2_slide_109 hl (k := 0) rfl (nI_1 _) (by decide) rfl (fun ls hl => ?_)
                  refine lv_goto (tgt := 85) hx hb dX2_slide_112 (by decide) ?_
                  exact ih85 (q + 1) (vp_updL as1 q (ce (40 * Hg a + q))) (by omega) (by omega) (as_s has rfl) H locs hP hD hS ls (lv_sub hl [0, 1, 2, 3, 4, 5, 6, 7, 8] rfl)
            exact loop85 (sV mk Z (Hg a) + 1) 0 as (by omega) (by omega) (fun p h => absurd h (by omega)) H locs hP hD hS ls (lv_sub hl [0, 1, 2, 3, 4, 5, 6, 7, 8] rfl)
          · skip
            refine lv_iconst (v := 3) hx hb dX2_slide_69 (by decide) ?_
            exact W.iret (v := 3) hx hb hr (fun t ht _ => ⟨⟨_, (0, ce, as), rfl, Or.inr ⟨rfl, a, _, ha, ea, rowIs_rf _ _, Or.inr (Or.inr (Or.inl ⟨hrow.1, hrow.2, Or.inr (Or.inr (Or.inr (by rw [← ey_1]; exact sl_gt ex_3 c66))), rfl, rfl⟩))⟩, by rw [ht]; exact hP, hD⟩, hS.F ht⟩) hS.2.2 dX2_slide_70
    · skip
      refine lv_iload hx hb dX2_slide_26 (lv_at hl 0 rfl) ?_
      exact W.iret (v := r16) hx hb hr (fun t ht _ => ⟨⟨_, (0, ce, as), rfl, Or.inr ⟨rfl, a, _, ha, ea, rowIs_rf _ _, (nr_no hw16 c23).1⟩, by rw [ht]; exact hP, hD⟩, hS.F ht⟩) hS.2.2 dX2_slide_28
set_option maxHeartbeats 4000000 in
set_option maxRecDepth 100000 in
theorem c_X2_turn (l : Launch) (D : va_G) (ci : Nat → ClassId) (ad : Nat → Nat) (z : Nat) (F : va_W) (th : Int32) (hd : Nat → Int32) (mk : Nat → Int32) (sz : Nat → Int32) (ce : Nat → Int64) (as : Nat → Int64) (np : Nat) (kd : Nat → Int32) (pu : Nat → Int64) (Hg Z : Nat → Nat) (x k : Int32) (hH : hOK hd Hg) (hZ : zOK sz Z) (hN : np ≤ 60) (hMK : ∀ t, t < 9 → ¬ mk t < 0) (hRO : ∀ h, h < 8 → mV mk (Hg h) ≤ 2 → ∀ q, q < sV mk Z (Hg h) → okV np (rV ce (Hg h) q)) : Met l yX2_turn wsX2_turn ({ frames := 2, cells := 0, slots := 0, locals := 43 }) (va_Pc [.ref (ad 30), .int x, .int k] (fun U => WD D ci ad z (wM ci ad th hd mk sz ce as np kd pu ++ F) U)) (va_Qi (fun (r : Int32) (u : Int32 × (Nat → Int64) × (Nat → Int64)) => (u.1 = 1 ∧ badH x ∧ u.2.1 = ce) ∨ (u.1 = 0 ∧ ∃ a f, a < 8 ∧ x = nI a ∧ rowIs ce (Hg a) f u.2.1 ∧ turnP (mV mk (Hg a)) (sV mk Z (Hg a)) (rV ce (Hg a)) k r f)) (fun u t => va_P D vwCl (wM ci ad u.1 hd mk sz u.2.1 u.2.2 np kd pu ++ F) t.heap ∧ va_D (LA z) (wM ci ad u.1 hd mk sz u.2.1 u.2.2 np kd pu ++ F)) (LA z)) 0 0 (LA z) := by
  refine Met.ofW (cc := cX2_turn) (maxL := 7) (ret := (some .int)) (by decide) rfl ?_
  intro p e s m args below meth c s₁ B hml hv
  obtain ⟨rfl, hP, hD, hK, hE⟩ := hv
  have hx := B.exec
  have hb := B.bytes
  have hr := B.returns
  have hts := atoms_spec (ws := wsX2_turn) B.pre
  have hown : s.vm.findClass RX2 = some m.cls := findClass_of_methodNamed B.named
  have hlocks := B.notSynchronized
  have hS : va_S (LA z) s.heap s.heap [] := va_S.rf
  have hin2 : ∀ w ∈ wsX20, w ∈ wsX2_turn := by decide +kernel
  have hl := lv_entry ([.ref (ad 30), .int x, .int k]) (n := 7) (Nat.le_of_ble_eq_true rfl)
  rw [lg_entry_eq]
  generalize (lg_sl ([.ref (ad 30), .int x, .int k]) ++ List.replicate (7 - (lg_sl ([.ref (ad 30), .int x, .int k])).length) Slot.unset).toArray = ls at hl ⊢
  have hl : lv_has ls 7 [(0, .ref (ad 30)), (1, .int x), (2, .int k)] := hl
  refine lv_aload_n hx hb dX2_turn_0 rfl (lv_at hl 0 rfl) ?_
  refine lv_iload_n hx hb dX2_turn_1 rfl (lv_at hl 1 rfl) ?_
  refine vp_callSi (W.runS (As := [.int x]) (rest := [.ref (ad 30)]) ⟨hx, hb, hml, hown, hts⟩ (c_X2_noHook l x ) (va_cwS 1 hts gX2_turn_X2_noHook rfl rfl rfl (by decide +kernel) ⟨Nat.le_of_ble_eq_true rfl, Nat.le_of_ble_eq_true rfl⟩) ⟨fb0, fun U hU hW => ⟨rfl, trivial⟩⟩ rfl rfl hl.1 rfl (lv_room (Nat.le_of_ble_eq_true rfl)) dX2_turn_2 ⟨Nat.le_of_ble_eq_true rfl, Nat.le_of_ble_eq_true rfl⟩) (fun r2 hw2 => ?_)
  rcases hw2 with ⟨rfl, h2⟩ | ⟨rfl, h2⟩
  · skip
    refine lv_iconst (v := 0) hx hb dX2_turn_5 (by decide) ?_
    refine va_calli (va_runV (As := [.int 1, .int 0]) (rest := []) ⟨hx, hb, hml, hown, hts⟩ (c_X2_fails l D ci ad z F th hd mk sz ce as np kd pu 1 0 ) (cwV 2 hts gX2_turn_X2_fails rfl rfl rfl (by decide +kernel) ⟨Nat.le_of_ble_eq_true rfl, Nat.le_of_ble_eq_true rfl⟩) ⟨WD.fb, (va_recv hK hP (ci := 2) (q0 := 0) rfl rfl), fun U hU hW => ⟨rfl, WD.call hP hD hK hE hS hU hW⟩⟩ rfl rfl hl.1 rfl (lv_room (Nat.le_of_ble_eq_true rfl)) dX2_turn_6 ⟨Nat.le_of_ble_eq_true rfl, Nat.le_of_ble_eq_true rfl⟩) hS (fun q _ h => h) (fun q h => h) (fun r6 u6 t6 H locs ht6 hvm6 hw6 hB6 hz6 hk6 hS => ?_)
    obtain ⟨hP, hD⟩ := hB6
    rw [ht6] at hP
    rcases hw6 with ⟨rfl, h6⟩ | ⟨rfl, h6⟩
    rotate_left
    · exact absurd h6.1 (by decide)
    have hu6 : u6 = 1 := u1 h6
    subst hu6
    refine lv_if_eq (tgt := 14) hx hb dX2_turn_9 (by decide) (fun c9 => absurd c9 (by decide)) (fun c9 => ?_)
    refine lv_iconst (v := 0) hx hb dX2_turn_12 (by decide) ?_
    exact W.iret (v := 0) hx hb hr (fun t ht _ => ⟨⟨_, (1, ce, as), rfl, Or.inl ⟨rfl, h2, rfl⟩, by rw [ht]; exact hP, hD⟩, hS.F ht⟩) hS.2.2 dX2_turn_13
  · skip
    obtain ⟨a, ha, ea⟩ := h2
    refine lv_iconst (v := 0) hx hb dX2_turn_5 (by decide) ?_
    refine va_calli (va_runV (As := [.int 0, .int 0]) (rest := []) ⟨hx, hb, hml, hown, hts⟩ (c_X2_fails l D ci ad z F th hd mk sz ce as np kd pu 0 0 ) (cwV 2 hts gX2_turn_X2_fails rfl rfl rfl (by decide +kernel) ⟨Nat.le_of_ble_eq_true rfl, Nat.le_of_ble_eq_true rfl⟩) ⟨WD.fb, (va_recv hK hP (ci := 2) (q0 := 0) rfl rfl), fun U hU hW => ⟨rfl, WD.call hP hD hK hE hS hU hW⟩⟩ rfl rfl hl.1 rfl (lv_room (Nat.le_of_ble_eq_true rfl)) dX2_turn_6 ⟨Nat.le_of_ble_eq_true rfl, Nat.le_of_ble_eq_true rfl⟩) hS (fun q _ h => h) (fun q h => h) (fun r6 u6 t6 H locs ht6 hvm6 hw6 hB6 hz6 hk6 hS => ?_)
    obtain ⟨hP, hD⟩ := hB6
    rw [ht6] at hP
    rcases hw6 with ⟨rfl, h6⟩ | ⟨rfl, h6⟩
    · exact absurd rfl (h6.elim (fun q => q.1) (fun q => q.2.1))
    have hu6 : u6 = 0 := h6.2.2
    subst hu6
    refine lv_if_eq (tgt := 14) hx hb dX2_turn_9 (by decide) (fun c9 => ?_) (fun c9 => absurd c9 (by decide))
    refine lv_aload_n hx hb dX2_turn_14 rfl (lv_at hl 0 rfl) ?_
    refine lv_iload_n hx hb dX2_turn_15 rfl (lv_at hl 1 rfl) ?_
    refine vp_callSi (W.runV (As := [.int x]) (rest := []) ⟨hx, hb, hml, hown, hts⟩ (c_X2_noRow l D ci ad z F 0 hd mk sz ce as np kd pu Hg Z x a hH hZ ha ea) (cwV 1 hts gX2_turn_X2_noRow rfl rfl rfl (by decide +kernel) ⟨Nat.le_of_ble_eq_true rfl, Nat.le_of_ble_eq_true rfl⟩) ⟨WD.fb, (va_recv hK hP (ci := 2) (q0 := 0) rfl rfl), fun U hU hW => ⟨rfl, WD.call hP hD hK hE hS hU hW⟩⟩ rfl rfl hl.1 rfl (lv_room (Nat.le_of_ble_eq_true rfl)) dX2_turn_16 ⟨Nat.le_of_ble_eq_true rfl, Nat.le_of_ble_eq_true rfl⟩) (fun r16 hw16 => ?_)
    refine lv_istore_n (lv' := [(3, .int r16), (0, .ref (ad 30)), (1, .int x), (2, .int k)]) hx hb dX2_turn_19 rfl hl (by decide) rfl (fun ls hl => ?_)
    refine lv_iload_n hx hb dX2_turn_20 rfl (lv_at hl 0 rfl) ?_
    refine lv_if_eq (tgt := 26) hx hb dX2_turn_21 (by decide) (fun c21 => ?_) (fun c21 => ?_)
    · skip
      have hrow := nr_yes hw16 c21
      have hS40 : sV mk Z (Hg a) ≤ 40 := sV_40 hZ (hH a ha).1
      refine lv_aload_n hx hb dX2_turn_26 rfl (lv_at hl 1 rfl) ?_
      refine lv_iload_n hx hb dX2_turn_27 rfl (lv_at hl 2 rfl) ?_
      refine vp_callSi (W.runV (As := [.int x]) (rest := []) ⟨hx, hb, hml, hown, hts⟩ (c_X2_sizeOf l D ci ad z F 0 hd mk sz ce as np kd pu Hg Z x a hH hZ ha ea) (cwV 1 hts gX2_turn_X2_sizeOf rfl rfl rfl (by decide +kernel) ⟨Nat.le_of_ble_eq_true rfl, Nat.le_of_ble_eq_true rfl⟩) ⟨WD.fb, (va_recv hK hP (ci := 2) (q0 := 0) rfl rfl), fun U hU hW => ⟨rfl, WD.call hP hD hK hE hS hU hW⟩⟩ rfl rfl hl.1 rfl (lv_room (Nat.le_of_ble_eq_true rfl)) dX2_turn_28 ⟨Nat.le_of_ble_eq_true rfl, Nat.le_of_ble_eq_true rfl⟩) (fun r28 hw28 => ?_)
      subst hw28
      refine lv_istore (lv' := [(4, .int (nI (sV mk Z (Hg a)))), (3, .int r16), (0, .ref (ad 30)), (1, .int x), (2, .int k)]) hx hb dX2_turn_31 hl (by decide) rfl (fun ls hl => ?_)
      refine lv_iload_n hx hb dX2_turn_33 rfl (lv_at hl 4 rfl) ?_
      refine lv_iconst (v := 0) hx hb dX2_turn_34 (by decide) ?_
      refine lv_iload hx hb dX2_turn_35 (lv_at hl 0 rfl) ?_
      refine vp_callSi (W.runS (As := [.int k, .int 0, .int (nI (sV mk Z (Hg a)))]) (rest := []) ⟨hx, hb, hml, hown, hts⟩ (c_X2_outside l k 0 (nI (sV mk Z (Hg a))) ) (va_cwS 3 hts gX2_turn_X2_outside rfl rfl rfl (by decide +kernel) ⟨Nat.le_of_ble_eq_true rfl, Nat.le_of_ble_eq_true rfl⟩) ⟨fb0, fun U hU hW => ⟨rfl, trivial⟩⟩ rfl rfl hl.1 rfl (lv_room (Nat.le_of_ble_eq_true rfl)) dX2_turn_37 ⟨Nat.le_of_ble_eq_true rfl, Nat.le_of_ble_eq_true rfl⟩) (fun r37 hw37 => ?_)
      rcases hw37 with ⟨rfl, h37⟩ | ⟨rfl, h37⟩
      · skip
        refine lv_if_eq (tgt := 45) hx hb dX2_turn_40 (by decide) (fun c40 => absurd c40 (by decide)) (fun c40 => ?_)
        refine lv_iconst (v := 3) hx hb dX2_turn_43 (by decide) ?_
        exact W.iret (v := 3) hx hb hr (fun t ht _ => ⟨⟨_, (0, ce, as), rfl, Or.inr ⟨rfl, a, _, ha, ea, rowIs_rf _ _, Or.inr (Or.inr (Or.inl ⟨hrow.1, hrow.2, h37, rfl, rfl⟩))⟩, by rw [ht]; exact hP, hD⟩, hS.F ht⟩) hS.2.2 dX2_turn_44
      · skip
        obtain ⟨K, hKS, eK⟩ := le_in hS40 h37.1 (Int32.not_lt.mp h37.2)
        have hta := hd_9 hH ha (mV_n4 hrow.2)
        refine lv_if_eq (tgt := 45) hx hb dX2_turn_40 (by decide) (fun c40 => ?_) (fun c40 => absurd c40 (by decide))
        refine lv_bipush (v := 40) hx hb dX2_turn_45 (by decide) ?_
        refine lv_aload_n hx hb dX2_turn_47 rfl (lv_at hl 2 rfl) ?_
        refine va_get (D := D) (ci := 2) (C := RX2) (T := TX2) (N := 9) hx hb hts hin2 hown hK hP 0 rfl rfl 1 (by decide) (hts (.fieldLink RX2 9 "DutyRotaModel" "held" "[I") (by decide +kernel)) (fun _ h9 => h9) rfl dX2_turn_48 ?_
        refine lv_iload_n hx hb dX2_turn_51 rfl (lv_at hl 3 rfl) ?_
        refine rw_ild hx hb hK hP 1 0 rfl rfl (j := a) (ea) (ha) (by decide) dX2_turn_52 ?_
        refine rw_topi (y := (nI (Hg a))) (hta.2) ?_
        refine lv_imul hx hb dX2_turn_53 ?_
        refine rw_topi (y := (nI (40 * Hg a))) (ix40' _) ?_
        refine lv_istore (lv' := [(5, .int (nI (40 * Hg a))), (4, .int (nI (sV mk Z (Hg a)))), (3, .int r16), (0, .ref (ad 30)), (1, .int x), (2, .int k)]) hx hb dX2_turn_54 hl (by decide) rfl (fun ls hl => ?_)
        refine lv_iconst (v := 0) hx hb dX2_turn_56 (by decide) ?_
        refine lv_istore (lv' := [(6, .int 0), (5, .int (nI (40 * Hg a))), (4, .int (nI (sV mk Z (Hg a)))), (3, .int r16), (0, .ref (ad 30)), (1, .int x), (2, .int k)]) hx hb dX2_turn_57 hl (by decide) rfl (fun ls hl => ?_)
        have loop59 : ∀ (d59 : Nat) (q : Nat) (as1 : Nat → Int64) (hd59 : sV mk Z (Hg a) + 1 ≤ q + d59) (hq : q ≤ sV mk Z (Hg a)) (has : ∀ p, p < q → as1 p = rV ce (Hg a) p) (H : Heap) (locs : List Loc) (hP : va_P D vwCl (wM ci ad 0 hd mk sz ce as1 np kd pu ++ F) H) (hD : va_D (LA z) (wM ci ad 0 hd mk sz ce as1 np kd pu ++ F)) (hS : va_S (LA z) s.heap H locs) (ls : Array Slot) (hl : lv_has ls 7 [(6, .int (nI q)), (5, .int (nI (40 * Hg a))), (4, .int (nI (sV mk Z (Hg a)))), (3, .int r16), (0, .ref (ad 30)), (1, .int x), (2, .int k)]), W p l e ({ frames := 2, cells := 0, slots := 0, locals := 43 } : Room) s m ([.ref (ad 30), .int x, .int k] : List Value).toArray below meth c H locs 0 0 (MQ below (va_Qi (fun (r : Int32) (u : Int32 × (Nat → Int64) × (Nat → Int64)) => (u.1 = 1 ∧ badH x ∧ u.2.1 = ce) ∨ (u.1 = 0 ∧ ∃ a f, a < 8 ∧ x = nI a ∧ rowIs ce (Hg a) f u.2.1 ∧ turnP (mV mk (Hg a)) (sV mk Z (Hg a)) (rV ce (Hg a)) k r f)) (fun u t => va_P D vwCl (wM ci ad u.1 hd mk sz u.2.1 u.2.2 np kd pu ++ F) t.heap ∧ va_D (LA z) (wM ci ad u.1 hd mk sz u.2.1 u.2.2 np kd pu ++ F)) (LA z)) ([.ref (ad 30), .int x, .int k] : List Value).toArray s 0 0 (LA z)) (F0 m 59 ls []) := by
          intro d59
          induction d59 with
          | zero => intro q as1 hd59 hq has H locs hP hD hS ls hl; exact absurd hd59 (by omega)
          | succ d59 ih59 =>
            intro q as1 hd59 hq has H locs hP hD hS ls hl
            refine lv_iload hx hb dX2_turn_59 (lv_at hl 0 rfl) ?_
            refine lv_iload hx hb dX2_turn_61 (lv_at hl 2 rfl) ?_
            refine lv_icmp_ge (tgt := 89) hx hb dX2_turn_63 (by decide) (fun c63 => ?_) (fun c63 => ?_)
            · skip
              have hE9 : q = sV mk Z (Hg a) := by have := nI_ge_of c63 (by omega) (by omega); omega
              refine lv_iconst (v := 0) hx hb dX2_turn_89 (by decide) ?_
              refine lv_istore (lv' := [(6, .int 0), (5, .int (nI (40 * Hg a))), (4, .int (nI (sV mk Z (Hg a)))), (3, .int r16), (0, .ref (ad 30)), (1, .int x), (2, .int k)]) hx hb dX2_turn_90 hl (by decide) rfl (fun ls hl => ?_)
              have loop92 : ∀ (d92 : Nat) (g : Nat) (ce1 : Nat → Int64) (hd92 : sV mk Z (Hg a) + 1 ≤ g + d92) (hp2 : g ≤ sV mk Z (Hg a)) (hce : rowIs ce (Hg a) (part (rV ce (Hg a)) (tuR (sV mk Z (Hg a)) (rV ce (Hg a)) K) 0 g) ce1) (H : Heap) (locs : List Loc) (hP : va_P D vwCl (wM ci ad 0 hd mk sz ce1 as1 np kd pu ++ F) H) (hD : va_D (LA z) (wM ci ad 0 hd mk sz ce1 as1 np kd pu ++ F)) (hS : va_S (LA z) s.heap H locs) (ls : Array Slot) (hl : lv_has ls 7 [(6, .int (nI g)), (5, .int (nI (40 * Hg a))), (4, .int (nI (sV mk Z (Hg a)))), (3, .int r16), (0, .ref (ad 30)), (1, .int x), (2, .int k)]), W p l e ({ frames := 2, cells := 0, slots := 0, locals := 43 } : Room) s m ([.ref (ad 30), .int x, .int k] : List Value).toArray below meth c H locs 0 0 (MQ below (va_Qi (fun (r : Int32) (u : Int32 × (Nat → Int64) × (Nat → Int64)) => (u.1 = 1 ∧ badH x ∧ u.2.1 = ce) ∨ (u.1 = 0 ∧ ∃ a f, a < 8 ∧ x = nI a ∧ rowIs ce (Hg a) f u.2.1 ∧ turnP (mV mk (Hg a)) (sV mk Z (Hg a)) (rV ce (Hg a)) k r f)) (fun u t => va_P D vwCl (wM ci ad u.1 hd mk sz u.2.1 u.2.2 np kd pu ++ F) t.heap ∧ va_D (LA z) (wM ci ad u.1 hd mk sz u.2.1 u.2.2 np kd pu ++ F)) (LA z)) ([.ref (ad 30), .int x, .int k] : List Value).toArray s 0 0 (LA z)) (F0 m 92 ls []) := by
                intro d92
                induction d92 with
                | zero => intro g ce1 hd92 hp2 hce H locs hP hD hS ls hl; exact absurd hd92 (by omega)
                | succ d92 ih92 =>
                  intro g ce1 hd92 hp2 hce H locs hP hD hS ls hl
                  refine lv_iload hx hb dX2_turn_92 (lv_at hl 0 rfl) ?_
                  refine lv_iload hx hb dX2_turn_94 (lv_at hl 2 rfl) ?_
                  refine lv_icmp_ge (tgt := 143) hx hb dX2_turn_96 (by decide) (fun c96 => ?_) (fun c96 => ?_)
                  · skip
                    have hE9 : g = sV mk Z (Hg a) := by have := nI_ge_of c96 (by omega) (by omega); omega
                    refine lv_iconst (v := 0) hx hb dX2_turn_143 (by decide) ?_
                    exact W.iret (v := 0) hx hb hr (fun t ht _ => ⟨⟨_, (0, ce1, as1), rfl, Or.inr ⟨rfl, a, _, ha, ea, by have h9 := hce; rw [hE9, part_T hKS] at h9; exact h9, Or.inr (Or.inr (Or.inr ⟨hrow.1, hrow.2, K, eK, hKS, rfl, rfl⟩))⟩, by rw [ht]; exact hP, hD⟩, hS.F ht⟩) hS.2.2 dX2_turn_144
                  · skip
                    have hE9 : g < sV mk Z (Hg a) := nI_lt_of c96 (by omega) (by omega)
                    refine lv_aload_n hx hb dX2_turn_99 rfl (lv_at hl 4 rfl) ?_
                    refine va_get (D := D) (ci := 2) (C := RX2) (T := TX2) (N := 9) hx hb hts hin2 hown hK hP 0 rfl rfl 4 (by decide) (hts (.fieldLink RX2 19 "DutyRotaModel" "cells" "[J") (by decide +kernel)) (fun _ h9 => h9) rfl dX2_turn_100 ?_
                    refine lv_iload hx hb dX2_turn_103 (lv_at hl 1 rfl) ?_
                    refine lv_iload hx hb dX2_turn_105 (lv_at hl 0 rfl) ?_
                    refine lv_iadd hx hb dX2_turn_107 ?_
                    refine rw_topi (y := (nI (40 * Hg a + g))) (nI_add _ _) ?_
                    refine lv_aload_n hx hb dX2_turn_108 rfl (lv_at hl 4 rfl) ?_
                    refine va_get (D := D) (ci := 2) (C := RX2) (T := TX2) (N := 9) hx hb hts hin2 hown hK hP 0 rfl rfl 5 (by decide) (hts (.fieldLink RX2 23 "DutyRotaModel" "aside" "[J") (by decide +kernel)) (fun _ h9 => h9) rfl dX2_turn_109 ?_
                    refine lv_iload hx hb dX2_turn_112 (lv_at hl 0 rfl) ?_
                    refine lv_iload_n hx hb dX2_turn_114 rfl (lv_at hl 6 rfl) ?_
                    refine lv_iadd hx hb dX2_turn_115 ?_
                    refine rw_topi (y := (nI (g + K))) (by rw [eK, nI_add]) ?_
                    refine lv_iload hx hb dX2_turn_116 (lv_at hl 2 rfl) ?_
                    refine lv_icmp_ge (tgt := 128) hx hb dX2_turn_118 (by decide) (fun c118 => ?_) (fun c118 => ?_)
                    · skip
                      have hge : sV mk Z (Hg a) ≤ g + K := nI_ge_of c118 (by omega) (by omega)
                      refine lv_iload hx hb dX2_turn_128 (lv_at hl 0 rfl) ?_
                      refine lv_iload_n hx hb dX2_turn_130 rfl (lv_at hl 6 rfl) ?_
                      refine lv_iadd hx hb dX2_turn_131 ?_
                      refine rw_topi (y := (nI (g + K))) (by rw [eK, nI_add]) ?_
                      refine lv_iload hx hb dX2_turn_132 (lv_at hl 2 rfl) ?_
                      refine lv_isub hx hb dX2_turn_134 ?_
                      refine rw_topi (y := (nI (g + K - sV mk Z (Hg a)))) (pk_sub hge) ?_
                      refine rw_lld hx hb hK hP 5 1 rfl rfl (j := (g + K - sV mk Z (Hg a))) (rfl) (by omega) (by decide) dX2_turn_135 ?_
                      refine rw_topl (y := (rV ce (Hg a) (g + K - sV mk Z (Hg a)))) (has _ (by omega)) ?_
                      refine rw_lst hx hb hK hP hD hS 4 1 rfl rfl (j := (40 * Hg a + g)) (rfl) (by omega) (by decide) (ws' := wM ci ad 0 hd mk sz (vp_updL ce1 (40 * Hg a + g) (rV ce (Hg a) (g + K - sV mk Z (Hg a)))) as1 np kd pu ++ F) rfl dX2_turn_136 (fun H locs hP hD hS => ?_)
                      refine lv_iinc (v := (nI (g + 1))) (lv' := [(6, .int (nI (g + 1))), (5, .int (nI (40 * Hg a))), (4, .int (nI (sV mk Z (Hg a)))), (3, .int r16), (0, .ref (ad 30)), (1, .int x), (2, .int k)]) hx hb dX2_turn_137 hl (k := 0) rfl (nI_1 _) (by decide) rfl (fun ls hl => ?_)
                      refine lv_goto (tgt := 92) hx hb dX2_turn_140 (by decide) ?_
                      exact ih92 (g + 1) (vp_updL ce1 (40 * Hg a + g) (rV ce (Hg a) (g + K - sV mk Z (Hg a)))) (by omega) (by omega) (by rw [← part_s (Nat.zero_le g) (tuR_2 hKS hge hE9)]; exact rowIs_up hce (by omega) _) H locs hP hD hS ls (lv_sub hl [0, 1, 2, 3, 4, 5, 6] rfl)
                    · skip
                      have hlt : g + K < sV mk Z (Hg a) := nI_lt_of c118 (by omega) (by omega)
                      refine lv_iload hx hb dX2_turn_121 (lv_at hl 0 rfl) ?_
                      refine lv_iload_n hx hb dX2_turn_123 rfl (lv_at hl 6 rfl) ?_
                      refine lv_iadd hx hb dX2_turn_124 ?_
                      refine rw_topi (y := (nI (g + K))) (by rw [eK, nI_add]) ?_
                      refine lv_goto (tgt := 135) hx hb dX2_turn_125 (by decide) ?_
                      refine rw_lld hx hb hK hP 5 1 rfl rfl (j := (g + K)) (rfl) (by omega) (by decide) dX2_turn_135 ?_
                      refine rw_topl (y := (rV ce (Hg a) (g + K))) (has _ (by omega)) ?_
                      refine rw_lst hx hb hK hP hD hS 4 1 rfl rfl (j := (40 * Hg a + g)) (rfl) (by omega) (by decide) (ws' := wM ci ad 0 hd mk sz (vp_updL ce1 (40 * Hg a + g) (rV ce (Hg a) (g + K))) as1 np kd pu ++ F) rfl dX2_turn_136 (fun H locs hP hD hS => ?_)
                      refine lv_iinc (v := (nI (g + 1))) (lv' := [(6, .int (nI (g + 1))), (5, .int (nI (40 * Hg a))), (4, .int (nI (sV mk Z (Hg a)))), (3, .int r16), (0, .ref (ad 30)), (1, .int x), (2, .int k)]) hx hb dX2_turn_137 hl (k := 0) rfl (nI_1 _) (by decide) rfl (fun ls hl => ?_)
                      refine lv_goto (tgt := 92) hx hb dX2_turn_140 (by decide) ?_
                      exact ih92 (g + 1) (vp_updL ce1 (40 * Hg a + g) (rV ce (Hg a) (g + K))) (by omega) (by omega) (by rw [← part_s (Nat.zero_le g) (tuR_1 hlt)]; exact rowIs_up hce (by omega) _) H locs hP hD hS ls (lv_sub hl [0, 1, 2, 3, 4, 5, 6] rfl)
              exact loop92 (sV mk Z (Hg a) + 1) 0 ce (by omega) (by omega) (by rw [part_0]; exact rowIs_rf _ _) H locs hP hD hS ls (lv_sub hl [0, 1, 2, 3, 4, 5, 6] rfl)
            · skip
              have hE9 : q < sV mk Z (Hg a) := nI_lt_of c63 (by omega) (by omega)
              refine lv_aload_n hx hb dX2_turn_66 rfl (lv_at hl 4 rfl) ?_
              refine va_get (D := D) (ci := 2) (C := RX2) (T := TX2) (N := 9) hx hb hts hin2 hown hK hP 0 rfl rfl 5 (by decide) (hts (.fieldLink RX2 23 "DutyRotaModel" "aside" "[J") (by decide +kernel)) (fun _ h9 => h9) rfl dX2_turn_67 ?_
              refine lv_iload hx hb dX2_turn_70 (lv_at hl 0 rfl) ?_
              refine lv_aload_n hx hb dX2_turn_72 rfl (lv_at hl 4 rfl) ?_
              refine va_get (D := D) (ci := 2) (C := RX2) (T := TX2) (N := 9) hx hb hts hin2 hown hK hP 0 rfl rfl 4 (by decide) (hts (.fieldLink RX2 19 "DutyRotaModel" "cells" "[J") (by decide +kernel)) (fun _ h9 => h9) rfl dX2_turn_73 ?_
              refine lv_iload hx hb dX2_turn_76 (lv_at hl 1 rfl) ?_
              refine lv_iload hx hb dX2_turn_78 (lv_at hl 0 rfl) ?_
              refine lv_iadd hx hb dX2_turn_80 ?_
              refine rw_topi (y := (nI (40 * Hg a + q))) (nI_add _ _) ?_
              refine rw_lld hx hb hK hP 4 1 rfl rfl (j := (40 * Hg a + q)) (rfl) (by omega) (by decide) dX2_turn_81 ?_
              refine rw_lst hx hb hK hP hD hS 5 1 rfl rfl (j := q) (rfl) (by omega) (by decide) (ws' := wM ci ad 0 hd mk sz ce (vp_updL as1 q (ce (40 * Hg a + q))) np kd pu ++ F) rfl dX2_turn_82 (fun H locs hP hD hS => ?_)
              refine lv_iinc (v := (nI (q + 1))) (lv' := [(6, .int (nI (q + 1))), (5, .int (nI (40 * Hg a))), (4, .int (nI (sV mk Z (Hg a)))), (3, .int r16), (0, .ref (ad 30)), (1, .int x), (2, .int k)]) hx hb dX2_turn_83 hl (k := 0) rfl (nI_1 _) (by decide) rfl (fun ls hl => ?_)
              refine lv_goto (tgt := 59) hx hb dX2_turn_86 (by decide) ?_
              exact ih59 (q + 1) (vp_updL as1 q (ce (40 * Hg a + q))) (by omega) (by omega) (as_s has rfl) H locs hP hD hS ls (lv_sub hl [0, 1, 2, 3, 4, 5, 6] rfl)
        exact loop59 (sV mk Z (Hg a) + 1) 0 as (by omega) (by omega) (fun p h => absurd h (by omega)) H locs hP hD hS ls (lv_sub hl [0, 1, 2, 3, 4, 5, 6] rfl)
    · skip
      refine lv_iload_n hx hb dX2_turn_24 rfl (lv_at hl 0 rfl) ?_
      exact W.iret (v := r16) hx hb hr (fun t ht _ => ⟨⟨_, (0, ce, as), rfl, Or.inr ⟨rfl, a, _, ha, ea, rowIs_rf _ _, (nr_no (i := 0) hw16 c21).2⟩, by rw [ht]; exact hP, hD⟩, hS.F ht⟩) hS.2.2 dX2_turn_25
set_option maxHeartbeats 4000000 in
set_option maxRecDepth 100000 in
theorem c_X2_pay (l : Launch) (D : va_G) (ci : Nat → ClassId) (ad : Nat → Nat) (z : Nat) (F : va_W) (th : Int32) (hd : Nat → Int32) (mk : Nat → Int32) (sz : Nat → Int32) (ce : Nat → Int64) (as : Nat → Int64) (np : Nat) (kd : Nat → Int32) (pu : Nat → Int64) (Hg Z : Nat → Nat) (x y t : Int32) (hH : hOK hd Hg) (hZ : zOK sz Z) (hN : np ≤ 60) (hMK : ∀ t, t < 9 → ¬ mk t < 0) (hRO : ∀ h, h < 8 → mV mk (Hg h) ≤ 2 → ∀ q, q < sV mk Z (Hg h) → okV np (rV ce (Hg h) q)) (hN6 : ∀ {t : Nat}, t < 9 → ¬ mV mk t = 6) : Met l yX2_pay wsX2_pay ({ frames := 2, cells := 0, slots := 0, locals := 43 }) (va_Pc [.ref (ad 30), .int x, .int y, .int t] (fun U => WD D ci ad z (wM ci ad th hd mk sz ce as np kd pu ++ F) U)) (va_Qi (fun (r : Int32) (u : Int32 × (Nat → Int64)) => (u.1 = 1 ∧ (badH x ∨ badH y ∨ badH t) ∧ u.2 = pu) ∨ (u.1 = 0 ∧ ∃ a b d, a < 8 ∧ b < 8 ∧ d < 8 ∧ x = nI a ∧ y = nI b ∧ t = nI d ∧ payP (mV mk (Hg a)) (mV mk (Hg b)) (mV mk (Hg d)) (sV mk Z (Hg a)) (sV mk Z (Hg b)) (sV mk Z (Hg d)) (rV ce (Hg a)) (rV ce (Hg b)) (rV ce (Hg d)) kd np pu r u.2)) (fun u t => va_P D vwCl (wM ci ad u.1 hd mk sz ce as np kd u.2 ++ F) t.heap ∧ va_D (LA z) (wM ci ad u.1 hd mk sz ce as np kd u.2 ++ F)) (LA z)) 0 0 (LA z) := by
  refine Met.ofW (cc := cX2_pay) (maxL := 9) (ret := (some .int)) (by decide) rfl ?_
  intro p e s m args below meth c s₁ B hml hv
  obtain ⟨rfl, hP, hD, hK, hE⟩ := hv
  have hx := B.exec
  have hb := B.bytes
  have hr := B.returns
  have hts := atoms_spec (ws := wsX2_pay) B.pre
  have hown : s.vm.findClass RX2 = some m.cls := findClass_of_methodNamed B.named
  have hlocks := B.notSynchronized
  have hS : va_S (LA z) s.heap s.heap [] := va_S.rf
  have hin2 : ∀ w ∈ wsX20, w ∈ wsX2_pay := by decide +kernel
  have hl := lv_entry ([.ref (ad 30), .int x, .int y, .int t]) (n := 9) (Nat.le_of_ble_eq_true rfl)
  rw [lg_entry_eq]
  generalize (lg_sl ([.ref (ad 30), .int x, .int y, .int t]) ++ List.replicate (9 - (lg_sl ([.ref (ad 30), .int x, .int y, .int t])).length) Slot.unset).toArray = ls at hl ⊢
  have hl : lv_has ls 9 [(0, .ref (ad 30)), (1, .int x), (2, .int y), (3, .int t)] := hl
  refine lv_aload_n hx hb dX2_pay_0 rfl (lv_at hl 0 rfl) ?_
  refine lv_iload_n hx hb dX2_pay_1 rfl (lv_at hl 1 rfl) ?_
  refine vp_callSi (W.runS (As := [.int x]) (rest := [.ref (ad 30)]) ⟨hx, hb, hml, hown, hts⟩ (c_X2_noHook l x ) (va_cwS 1 hts gX2_pay_X2_noHook rfl rfl rfl (by decide +kernel) ⟨Nat.le_of_ble_eq_true rfl, Nat.le_of_ble_eq_true rfl⟩) ⟨fb0, fun U hU hW => ⟨rfl, trivial⟩⟩ rfl rfl hl.1 rfl (lv_room (Nat.le_of_ble_eq_true rfl)) dX2_pay_2 ⟨Nat.le_of_ble_eq_true rfl, Nat.le_of_ble_eq_true rfl⟩) (fun r2 hw2 => ?_)
  rcases hw2 with ⟨rfl, h2⟩ | ⟨rfl, h2⟩
  · skip
    refine lv_if_ne (tgt := 22) hx hb dX2_pay_5 (by decide) (fun c5 => ?_) (fun c5 => absurd c5 (by decide))
    refine lv_iconst (v := 1) hx hb dX2_pay_22 (by decide) ?_
    refine lv_goto (tgt := 27) hx hb dX2_pay_23 (by decide) ?_
    refine lv_iconst (v := 0) hx hb dX2_pay_27 (by decide) ?_
    refine va_calli (va_runV (As := [.int 1, .int 0]) (rest := []) ⟨hx, hb, hml, hown, hts⟩ (c_X2_fails l D ci ad z F th hd mk sz ce as np kd pu 1 0 ) (cwV 2 hts gX2_pay_X2_fails rfl rfl rfl (by decide +kernel) ⟨Nat.le_of_ble_eq_true rfl, Nat.le_of_ble_eq_true rfl⟩) ⟨WD.fb, (va_recv hK hP (ci := 2) (q0 := 0) rfl rfl), fun U hU hW => ⟨rfl, WD.call hP hD hK hE hS hU hW⟩⟩ rfl rfl hl.1 rfl (lv_room (Nat.le_of_ble_eq_true rfl)) dX2_pay_28 ⟨Nat.le_of_ble_eq_true rfl, Nat.le_of_ble_eq_true rfl⟩) hS (fun q _ h => h) (fun q h => h) (fun r28 u28 t28 H locs ht28 hvm28 hw28 hB28 hz28 hk28 hS => ?_)
    obtain ⟨hP, hD⟩ := hB28
    rw [ht28] at hP
    rcases hw28 with ⟨rfl, h28⟩ | ⟨rfl, h28⟩
    rotate_left
    · exact absurd h28.1 (by decide)
    have hu28 : u28 = 1 := u1 h28
    subst hu28
    refine lv_if_eq (tgt := 36) hx hb dX2_pay_31 (by decide) (fun c31 => absurd c31 (by decide)) (fun c31 => ?_)
    refine lv_iconst (v := 0) hx hb dX2_pay_34 (by decide) ?_
    exact W.iret (v := 0) hx hb hr (fun t ht _ => ⟨⟨_, (1, pu), rfl, Or.inl ⟨rfl, Or.inl h2, rfl⟩, by rw [ht]; exact hP, hD⟩, hS.F ht⟩) hS.2.2 dX2_pay_35
  · skip
    obtain ⟨a, ha, ea⟩ := h2
    refine lv_if_ne (tgt := 22) hx hb dX2_pay_5 (by decide) (fun c5 => absurd c5 (by decide)) (fun c5 => ?_)
    refine lv_iload_n hx hb dX2_pay_8 rfl (lv_at hl 2 rfl) ?_
    refine vp_callSi (W.runS (As := [.int y]) (rest := [.ref (ad 30)]) ⟨hx, hb, hml, hown, hts⟩ (c_X2_noHook l y ) (va_cwS 1 hts gX2_pay_X2_noHook rfl rfl rfl (by decide +kernel) ⟨Nat.le_of_ble_eq_true rfl, Nat.le_of_ble_eq_true rfl⟩) ⟨fb0, fun U hU hW => ⟨rfl, trivial⟩⟩ rfl rfl hl.1 rfl (lv_room (Nat.le_of_ble_eq_true rfl)) dX2_pay_9 ⟨Nat.le_of_ble_eq_true rfl, Nat.le_of_ble_eq_true rfl⟩) (fun r9 hw9 => ?_)
    rcases hw9 with ⟨rfl, h9⟩ | ⟨rfl, h9⟩
    · skip
      refine lv_if_ne (tgt := 22) hx hb dX2_pay_12 (by decide) (fun c12 => ?_) (fun c12 => absurd c12 (by decide))
      refine lv_iconst (v := 1) hx hb dX2_pay_22 (by decide) ?_
      refine lv_goto (tgt := 27) hx hb dX2_pay_23 (by decide) ?_
      refine lv_iconst (v := 0) hx hb dX2_pay_27 (by decide) ?_
      refine va_calli (va_runV (As := [.int 1, .int 0]) (rest := []) ⟨hx, hb, hml, hown, hts⟩ (c_X2_fails l D ci ad z F th hd mk sz ce as np kd pu 1 0 ) (cwV 2 hts gX2_pay_X2_fails rfl rfl rfl (by decide +kernel) ⟨Nat.le_of_ble_eq_true rfl, Nat.le_of_ble_eq_true rfl⟩) ⟨WD.fb, (va_recv hK hP (ci := 2) (q0 := 0) rfl rfl), fun U hU hW => ⟨rfl, WD.call hP hD hK hE hS hU hW⟩⟩ rfl rfl hl.1 rfl (lv_room (Nat.le_of_ble_eq_true rfl)) dX2_pay_28 ⟨Nat.le_of_ble_eq_true rfl, Nat.le_of_ble_eq_true rfl⟩) hS (fun q _ h => h) (fun q h => h) (fun r28 u28 t28 H locs ht28 hvm28 hw28 hB28 hz28 hk28 hS => ?_)
      obtain ⟨hP, hD⟩ := hB28
      rw [ht28] at hP
      rcases hw28 with ⟨rfl, h28⟩ | ⟨rfl, h28⟩
      rotate_left
      · exact absurd h28.1 (by decide)
      have hu28 : u28 = 1 := u1 h28
      subst hu28
      refine lv_if_eq (tgt := 36) hx hb dX2_pay_31 (by decide) (fun c31 => absurd c31 (by decide)) (fun c31 => ?_)
      refine lv_iconst (v := 0) hx hb dX2_pay_34 (by decide) ?_
      exact W.iret (v := 0) hx hb hr (fun t ht _ => ⟨⟨_, (1, pu), rfl, Or.inl ⟨rfl, Or.inr (Or.inl h9), rfl⟩, by rw [ht]; exact hP, hD⟩, hS.F ht⟩) hS.2.2 dX2_pay_35
    · skip
      obtain ⟨b, hb8, eb⟩ := h9
      refine lv_if_ne (tgt := 22) hx hb dX2_pay_12 (by decide) (fun c12 => absurd c12 (by decide)) (fun c12 => ?_)
      refine lv_iload_n hx hb dX2_pay_15 rfl (lv_at hl 3 rfl) ?_
      refine vp_callSi (W.runS (As := [.int t]) (rest := [.ref (ad 30)]) ⟨hx, hb, hml, hown, hts⟩ (c_X2_noHook l t ) (va_cwS 1 hts gX2_pay_X2_noHook rfl rfl rfl (by decide +kernel) ⟨Nat.le_of_ble_eq_true rfl, Nat.le_of_ble_eq_true rfl⟩) ⟨fb0, fun U hU hW => ⟨rfl, trivial⟩⟩ rfl rfl hl.1 rfl (lv_room (Nat.le_of_ble_eq_true rfl)) dX2_pay_16 ⟨Nat.le_of_ble_eq_true rfl, Nat.le_of_ble_eq_true rfl⟩) (fun r16 hw16 => ?_)
      rcases hw16 with ⟨rfl, h16⟩ | ⟨rfl, h16⟩
      · skip
        refine lv_if_eq (tgt := 26) hx hb dX2_pay_19 (by decide) (fun c19 => absurd c19 (by decide)) (fun c19 => ?_)
        refine lv_iconst (v := 1) hx hb dX2_pay_22 (by decide) ?_
        refine lv_goto (tgt := 27) hx hb dX2_pay_23 (by decide) ?_
        refine lv_iconst (v := 0) hx hb dX2_pay_27 (by decide) ?_
        refine va_calli (va_runV (As := [.int 1, .int 0]) (rest := []) ⟨hx, hb, hml, hown, hts⟩ (c_X2_fails l D ci ad z F th hd mk sz ce as np kd pu 1 0 ) (cwV 2 hts gX2_pay_X2_fails rfl rfl rfl (by decide +kernel) ⟨Nat.le_of_ble_eq_true rfl, Nat.le_of_ble_eq_true rfl⟩) ⟨WD.fb, (va_recv hK hP (ci := 2) (q0 := 0) rfl rfl), fun U hU hW => ⟨rfl, WD.call hP hD hK hE hS hU hW⟩⟩ rfl rfl hl.1 rfl (lv_room (Nat.le_of_ble_eq_true rfl)) dX2_pay_28 ⟨Nat.le_of_ble_eq_true rfl, Nat.le_of_ble_eq_true rfl⟩) hS (fun q _ h => h) (fun q h => h) (fun r28 u28 t28 H locs ht28 hvm28 hw28 hB28 hz28 hk28 hS => ?_)
        obtain ⟨hP, hD⟩ := hB28
        rw [ht28] at hP
        rcases hw28 with ⟨rfl, h28⟩ | ⟨rfl, h28⟩
        rotate_left
        · exact absurd h28.1 (by decide)
        have hu28 : u28 = 1 := u1 h28
        subst hu28
        refine lv_if_eq (tgt := 36) hx hb dX2_pay_31 (by decide) (fun c31 => absurd c31 (by decide)) (fun c31 => ?_)
        refine lv_iconst (v := 0) hx hb dX2_pay_34 (by decide) ?_
        exact W.iret (v := 0) hx hb hr (fun t ht _ => ⟨⟨_, (1, pu), rfl, Or.inl ⟨rfl, Or.inr (Or.inr h16), rfl⟩, by rw [ht]; exact hP, hD⟩, hS.F ht⟩) hS.2.2 dX2_pay_35
      · skip
        obtain ⟨d, hd8, ed⟩ := h16
        refine lv_if_eq (tgt := 26) hx hb dX2_pay_19 (by decide) (fun c19 => ?_) (fun c19 => absurd c19 (by decide))
        refine lv_iconst (v := 0) hx hb dX2_pay_26 (by decide) ?_
        refine lv_iconst (v := 0) hx hb dX2_pay_27 (by decide) ?_
        refine va_calli (va_runV (As := [.int 0, .int 0]) (rest := []) ⟨hx, hb, hml, hown, hts⟩ (c_X2_fails l D ci ad z F th hd mk sz ce as np kd pu 0 0 ) (cwV 2 hts gX2_pay_X2_fails rfl rfl rfl (by decide +kernel) ⟨Nat.le_of_ble_eq_true rfl, Nat.le_of_ble_eq_true rfl⟩) ⟨WD.fb, (va_recv hK hP (ci := 2) (q0 := 0) rfl rfl), fun U hU hW => ⟨rfl, WD.call hP hD hK hE hS hU hW⟩⟩ rfl rfl hl.1 rfl (lv_room (Nat.le_of_ble_eq_true rfl)) dX2_pay_28 ⟨Nat.le_of_ble_eq_true rfl, Nat.le_of_ble_eq_true rfl⟩) hS (fun q _ h => h) (fun q h => h) (fun r28 u28 t28 H locs ht28 hvm28 hw28 hB28 hz28 hk28 hS => ?_)
        obtain ⟨hP, hD⟩ := hB28
        rw [ht28] at hP
        rcases hw28 with ⟨rfl, h28⟩ | ⟨rfl, h28⟩
        · exact absurd rfl (h28.elim (fun q => q.1) (fun q => q.2.1))
        have hu28 : u28 = 0 := h28.2.2
        subst hu28
        refine lv_if_eq (tgt := 36) hx hb dX2_pay_31 (by decide) (fun c31 => ?_) (fun c31 => absurd c31 (by decide))
        refine lv_aload_n hx hb dX2_pay_36 rfl (lv_at hl 0 rfl) ?_
        refine lv_iload_n hx hb dX2_pay_37 rfl (lv_at hl 1 rfl) ?_
        refine lv_aload_n hx hb dX2_pay_38 rfl (lv_at hl 0 rfl) ?_
        refine lv_iload_n hx hb dX2_pay_39 rfl (lv_at hl 1 rfl) ?_
        refine vp_callSi (W.runV (As := [.int x]) (rest := [.int x, .ref (ad 30)]) ⟨hx, hb, hml, hown, hts⟩ (c_X2_makeOf l D ci ad z F 0 hd mk sz ce as np kd pu Hg Z x a hH hZ ha ea) (cwV 1 hts gX2_pay_X2_makeOf rfl rfl rfl (by decide +kernel) ⟨Nat.le_of_ble_eq_true rfl, Nat.le_of_ble_eq_true rfl⟩) ⟨WD.fb, (va_recv hK hP (ci := 2) (q0 := 0) rfl rfl), fun U hU hW => ⟨rfl, WD.call hP hD hK hE hS hU hW⟩⟩ rfl rfl hl.1 rfl (lv_room (Nat.le_of_ble_eq_true rfl)) dX2_pay_40 ⟨Nat.le_of_ble_eq_true rfl, Nat.le_of_ble_eq_true rfl⟩) (fun r40 hw40 => ?_)
        subst hw40
        refine vp_callSi (W.runS (As := [.int (mV mk (Hg a))]) (rest := [.int x, .ref (ad 30)]) ⟨hx, hb, hml, hown, hts⟩ (c_X2_isRoster l (mV mk (Hg a)) ) (va_cwS 1 hts gX2_pay_X2_isRoster rfl rfl rfl (by decide +kernel) ⟨Nat.le_of_ble_eq_true rfl, Nat.le_of_ble_eq_true rfl⟩) ⟨fb0, fun U hU hW => ⟨rfl, trivial⟩⟩ rfl rfl hl.1 rfl (lv_room (Nat.le_of_ble_eq_true rfl)) dX2_pay_43 ⟨Nat.le_of_ble_eq_true rfl, Nat.le_of_ble_eq_true rfl⟩) (fun r43 hw43 => ?_)
        rcases hw43 with ⟨rfl, h43⟩ | ⟨rfl, h43⟩
        · skip
          refine vp_callSi (W.runV (As := [.int x, .int 1]) (rest := []) ⟨hx, hb, hml, hown, hts⟩ (c_X2_isWrong l D ci ad z F 0 hd mk sz ce as np kd pu Hg Z x 1 a hH hZ ha ea) (cwV 2 hts gX2_pay_X2_isWrong rfl rfl rfl (by decide +kernel) ⟨Nat.le_of_ble_eq_true rfl, Nat.le_of_ble_eq_true rfl⟩) ⟨WD.fb, (va_recv hK hP (ci := 2) (q0 := 0) rfl rfl), fun U hU hW => ⟨rfl, WD.call hP hD hK hE hS hU hW⟩⟩ rfl rfl hl.1 rfl (lv_room (Nat.le_of_ble_eq_true rfl)) dX2_pay_46 ⟨Nat.le_of_ble_eq_true rfl, Nat.le_of_ble_eq_true rfl⟩) (fun r46 hw46 => ?_)
          rcases hw46 with ⟨rfl, h46⟩ | ⟨rfl, h46⟩
          · exact absurd h46.2 (by decide)
          have nwa : ¬ (¬ (mV mk (Hg a)) = 6 ∧ ¬ fam (mV mk (Hg a)) = 0) := fun q => q.2 (if_pos h43)
          have oka : ¬ (mV mk (Hg a)) = 6 := fun e => absurd (e ▸ h43) (by decide)
          refine lv_if_ne (tgt := 96) hx hb dX2_pay_49 (by decide) (fun c49 => absurd c49 (by decide)) (fun c49 => ?_)
          refine lv_aload_n hx hb dX2_pay_52 rfl (lv_at hl 0 rfl) ?_
          refine lv_iload_n hx hb dX2_pay_53 rfl (lv_at hl 2 rfl) ?_
          refine lv_aload_n hx hb dX2_pay_54 rfl (lv_at hl 0 rfl) ?_
          refine lv_iload_n hx hb dX2_pay_55 rfl (lv_at hl 2 rfl) ?_
          refine vp_callSi (W.runV (As := [.int y]) (rest := [.int y, .ref (ad 30)]) ⟨hx, hb, hml, hown, hts⟩ (c_X2_makeOf l D ci ad z F 0 hd mk sz ce as np kd pu Hg Z y b hH hZ hb8 eb) (cwV 1 hts gX2_pay_X2_makeOf rfl rfl rfl (by decide +kernel) ⟨Nat.le_of_ble_eq_true rfl, Nat.le_of_ble_eq_true rfl⟩) ⟨WD.fb, (va_recv hK hP (ci := 2) (q0 := 0) rfl rfl), fun U hU hW => ⟨rfl, WD.call hP hD hK hE hS hU hW⟩⟩ rfl rfl hl.1 rfl (lv_room (Nat.le_of_ble_eq_true rfl)) dX2_pay_56 ⟨Nat.le_of_ble_eq_true rfl, Nat.le_of_ble_eq_true rfl⟩) (fun r56 hw56 => ?_)
          subst hw56
          refine lv_iconst (v := 3) hx hb dX2_pay_59 (by decide) ?_
          refine lv_icmp_ne (tgt := 67) hx hb dX2_pay_60 (by decide) (fun c60 => ?_) (fun c60 => ?_)
          · skip
            refine lv_iconst (v := 0) hx hb dX2_pay_67 (by decide) ?_
            refine vp_callSi (W.runV (As := [.int y, .int 0]) (rest := []) ⟨hx, hb, hml, hown, hts⟩ (c_X2_isWrong l D ci ad z F 0 hd mk sz ce as np kd pu Hg Z y 0 b hH hZ hb8 eb) (cwV 2 hts gX2_pay_X2_isWrong rfl rfl rfl (by decide +kernel) ⟨Nat.le_of_ble_eq_true rfl, Nat.le_of_ble_eq_true rfl⟩) ⟨WD.fb, (va_recv hK hP (ci := 2) (q0 := 0) rfl rfl), fun U hU hW => ⟨rfl, WD.call hP hD hK hE hS hU hW⟩⟩ rfl rfl hl.1 rfl (lv_room (Nat.le_of_ble_eq_true rfl)) dX2_pay_68 ⟨Nat.le_of_ble_eq_true rfl, Nat.le_of_ble_eq_true rfl⟩) (fun r68 hw68 => ?_)
            rcases hw68 with ⟨rfl, h68⟩ | ⟨rfl, h68⟩
            · skip
              refine lv_if_ne (tgt := 96) hx hb dX2_pay_71 (by decide) (fun c71 => ?_) (fun c71 => absurd c71 (by decide))
              refine lv_iconst (v := 1) hx hb dX2_pay_96 (by decide) ?_
              refine lv_goto (tgt := 101) hx hb dX2_pay_97 (by decide) ?_
              refine lv_istore (lv' := [(4, .int 1), (0, .ref (ad 30)), (1, .int x), (2, .int y), (3, .int t)]) hx hb dX2_pay_101 hl (by decide) rfl (fun ls hl => ?_)
              refine lv_iload hx hb dX2_pay_103 (lv_at hl 0 rfl) ?_
              refine lv_if_eq (tgt := 110) hx hb dX2_pay_105 (by decide) (fun c105 => absurd c105 (by decide)) (fun c105 => ?_)
              refine lv_iconst (v := 2) hx hb dX2_pay_108 (by decide) ?_
              exact W.iret (v := 2) hx hb hr (fun t ht _ => ⟨⟨_, (0, pu), rfl, Or.inr ⟨rfl, a, b, d, ha, hb8, hd8, ea, eb, ed, Or.inl ⟨Or.inr (Or.inl ⟨h68.1, fun e => c60 ((fm_k (by decide) (by decide)).mp e)⟩), rfl, rfl⟩⟩, by rw [ht]; exact hP, hD⟩, hS.F ht⟩) hS.2.2 dX2_pay_109
            · skip
              have sb : (mV mk (Hg b)) = 6 := Classical.byContradiction (fun q => h68 ⟨q, rfl⟩)
              have nwb : ¬ (¬ (mV mk (Hg b)) = 6 ∧ ¬ fam (mV mk (Hg b)) = 3) := fun q => q.1 sb
              refine lv_if_ne (tgt := 96) hx hb dX2_pay_71 (by decide) (fun c71 => absurd c71 (by decide)) (fun c71 => ?_)
              refine lv_aload_n hx hb dX2_pay_74 rfl (lv_at hl 0 rfl) ?_
              refine lv_iload_n hx hb dX2_pay_75 rfl (lv_at hl 3 rfl) ?_
              refine lv_aload_n hx hb dX2_pay_76 rfl (lv_at hl 0 rfl) ?_
              refine lv_iload_n hx hb dX2_pay_77 rfl (lv_at hl 3 rfl) ?_
              refine vp_callSi (W.runV (As := [.int t]) (rest := [.int t, .ref (ad 30)]) ⟨hx, hb, hml, hown, hts⟩ (c_X2_makeOf l D ci ad z F 0 hd mk sz ce as np kd pu Hg Z t d hH hZ hd8 ed) (cwV 1 hts gX2_pay_X2_makeOf rfl rfl rfl (by decide +kernel) ⟨Nat.le_of_ble_eq_true rfl, Nat.le_of_ble_eq_true rfl⟩) ⟨WD.fb, (va_recv hK hP (ci := 2) (q0 := 0) rfl rfl), fun U hU hW => ⟨rfl, WD.call hP hD hK hE hS hU hW⟩⟩ rfl rfl hl.1 rfl (lv_room (Nat.le_of_ble_eq_true rfl)) dX2_pay_78 ⟨Nat.le_of_ble_eq_true rfl, Nat.le_of_ble_eq_true rfl⟩) (fun r78 hw78 => ?_)
              subst hw78
              refine lv_iconst (v := 4) hx hb dX2_pay_81 (by decide) ?_
              refine lv_icmp_ne (tgt := 89) hx hb dX2_pay_82 (by decide) (fun c82 => ?_) (fun c82 => ?_)
              · skip
                refine lv_iconst (v := 0) hx hb dX2_pay_89 (by decide) ?_
                refine vp_callSi (W.runV (As := [.int t, .int 0]) (rest := []) ⟨hx, hb, hml, hown, hts⟩ (c_X2_isWrong l D ci ad z F 0 hd mk sz ce as np kd pu Hg Z t 0 d hH hZ hd8 ed) (cwV 2 hts gX2_pay_X2_isWrong rfl rfl rfl (by decide +kernel) ⟨Nat.le_of_ble_eq_true rfl, Nat.le_of_ble_eq_true rfl⟩) ⟨WD.fb, (va_recv hK hP (ci := 2) (q0 := 0) rfl rfl), fun U hU hW => ⟨rfl, WD.call hP hD hK hE hS hU hW⟩⟩ rfl rfl hl.1 rfl (lv_room (Nat.le_of_ble_eq_true rfl)) dX2_pay_90 ⟨Nat.le_of_ble_eq_true rfl, Nat.le_of_ble_eq_true rfl⟩) (fun r90 hw90 => ?_)
                rcases hw90 with ⟨rfl, h90⟩ | ⟨rfl, h90⟩
                · skip
                  refine lv_if_eq (tgt := 100) hx hb dX2_pay_93 (by decide) (fun c93 => absurd c93 (by decide)) (fun c93 => ?_)
                  refine lv_iconst (v := 1) hx hb dX2_pay_96 (by decide) ?_
                  refine lv_goto (tgt := 101) hx hb dX2_pay_97 (by decide) ?_
                  refine lv_istore (lv' := [(4, .int 1), (0, .ref (ad 30)), (1, .int x), (2, .int y), (3, .int t)]) hx hb dX2_pay_101 hl (by decide) rfl (fun ls hl => ?_)
                  refine lv_iload hx hb dX2_pay_103 (lv_at hl 0 rfl) ?_
                  refine lv_if_eq (tgt := 110) hx hb dX2_pay_105 (by decide) (fun c105 => absurd c105 (by decide)) (fun c105 => ?_)
                  refine lv_iconst (v := 2) hx hb dX2_pay_108 (by decide) ?_
                  exact W.iret (v := 2) hx hb hr (fun t ht _ => ⟨⟨_, (0, pu), rfl, Or.inr ⟨rfl, a, b, d, ha, hb8, hd8, ea, eb, ed, Or.inl ⟨Or.inr (Or.inr ⟨h90.1, fun e => c82 ((fm_k (by decide) (by decide)).mp e)⟩), rfl, rfl⟩⟩, by rw [ht]; exact hP, hD⟩, hS.F ht⟩) hS.2.2 dX2_pay_109
                · skip
                  have sd : (mV mk (Hg d)) = 6 := Classical.byContradiction (fun q => h90 ⟨q, rfl⟩)
                  have nwd : ¬ (¬ (mV mk (Hg d)) = 6 ∧ ¬ fam (mV mk (Hg d)) = 4) := fun q => q.1 sd
                  refine lv_if_eq (tgt := 100) hx hb dX2_pay_93 (by decide) (fun c93 => ?_) (fun c93 => absurd c93 (by decide))
                  refine lv_iconst (v := 0) hx hb dX2_pay_100 (by decide) ?_
                  refine lv_istore (lv' := [(4, .int 0), (0, .ref (ad 30)), (1, .int x), (2, .int y), (3, .int t)]) hx hb dX2_pay_101 hl (by decide) rfl (fun ls hl => ?_)
                  refine lv_iload hx hb dX2_pay_103 (lv_at hl 0 rfl) ?_
                  refine lv_if_eq (tgt := 110) hx hb dX2_pay_105 (by decide) (fun c105 => ?_) (fun c105 => absurd c105 (by decide))
                  refine lv_aload_n hx hb dX2_pay_110 rfl (lv_at hl 1 rfl) ?_
                  refine va_get (D := D) (ci := 2) (C := RX2) (T := TX2) (N := 9) hx hb hts hin2 hown hK hP 0 rfl rfl 1 (by decide) (hts (.fieldLink RX2 9 "DutyRotaModel" "held" "[I") (by decide +kernel)) (fun _ h9 => h9) rfl dX2_pay_111 ?_
                  refine lv_iload_n hx hb dX2_pay_114 rfl (lv_at hl 2 rfl) ?_
                  refine rw_ild hx hb hK hP 1 0 rfl rfl (j := a) (ea) (ha) (by decide) dX2_pay_115 ?_
                  refine lv_iconst (v := -1) hx hb dX2_pay_116 (by decide) ?_
                  refine lv_icmp_eq (tgt := 140) hx hb dX2_pay_117 (by decide) (fun c117 => by exact absurd (mV_9 (hd_m1 hH ha c117)) oka) (fun c117 => ?_)
                  refine lv_aload_n hx hb dX2_pay_120 rfl (lv_at hl 1 rfl) ?_
                  refine va_get (D := D) (ci := 2) (C := RX2) (T := TX2) (N := 9) hx hb hts hin2 hown hK hP 0 rfl rfl 1 (by decide) (hts (.fieldLink RX2 9 "DutyRotaModel" "held" "[I") (by decide +kernel)) (fun _ h9 => h9) rfl dX2_pay_121 ?_
                  refine lv_iload_n hx hb dX2_pay_124 rfl (lv_at hl 3 rfl) ?_
                  refine rw_ild hx hb hK hP 1 0 rfl rfl (j := b) (eb) (hb8) (by decide) dX2_pay_125 ?_
                  refine lv_iconst (v := -1) hx hb dX2_pay_126 (by decide) ?_
                  refine lv_icmp_eq (tgt := 140) hx hb dX2_pay_127 (by decide) (fun c127 => ?_) (fun c127 => by exact absurd sb (hN6 (hd_t hH hb8 c127).1))
                  refine lv_iconst (v := 1) hx hb dX2_pay_140 (by decide) ?_
                  exact W.iret (v := 1) hx hb hr (fun t ht _ => ⟨⟨_, (0, pu), rfl, Or.inr ⟨rfl, a, b, d, ha, hb8, hd8, ea, eb, ed, Or.inr ⟨fun q => q.elim nwa (fun q => q.elim nwb nwd), Or.inl ⟨Or.inr (Or.inl sb), rfl, rfl⟩⟩⟩, by rw [ht]; exact hP, hD⟩, hS.F ht⟩) hS.2.2 dX2_pay_141
              · skip
                refine lv_iconst (v := 1) hx hb dX2_pay_85 (by decide) ?_
                refine lv_goto (tgt := 90) hx hb dX2_pay_86 (by decide) ?_
                refine vp_callSi (W.runV (As := [.int t, .int 1]) (rest := []) ⟨hx, hb, hml, hown, hts⟩ (c_X2_isWrong l D ci ad z F 0 hd mk sz ce as np kd pu Hg Z t 1 d hH hZ hd8 ed) (cwV 2 hts gX2_pay_X2_isWrong rfl rfl rfl (by decide +kernel) ⟨Nat.le_of_ble_eq_true rfl, Nat.le_of_ble_eq_true rfl⟩) ⟨WD.fb, (va_recv hK hP (ci := 2) (q0 := 0) rfl rfl), fun U hU hW => ⟨rfl, WD.call hP hD hK hE hS hU hW⟩⟩ rfl rfl hl.1 rfl (lv_room (Nat.le_of_ble_eq_true rfl)) dX2_pay_90 ⟨Nat.le_of_ble_eq_true rfl, Nat.le_of_ble_eq_true rfl⟩) (fun r90 hw90 => ?_)
                rcases hw90 with ⟨rfl, h90⟩ | ⟨rfl, h90⟩
                · exact absurd h90.2 (by decide)
                have nwd : ¬ (¬ (mV mk (Hg d)) = 6 ∧ ¬ fam (mV mk (Hg d)) = 4) := fun q => q.2 ((fm_k (by decide) (by decide)).mpr c82)
                have okd : ¬ (mV mk (Hg d)) = 6 := fun e => absurd (e.symm.trans c82) (by decide)
                refine lv_if_eq (tgt := 100) hx hb dX2_pay_93 (by decide) (fun c93 => ?_) (fun c93 => absurd c93 (by decide))
                refine lv_iconst (v := 0) hx hb dX2_pay_100 (by decide) ?_
                refine lv_istore (lv' := [(4, .int 0), (0, .ref (ad 30)), (1, .int x), (2, .int y), (3, .int t)]) hx hb dX2_pay_101 hl (by decide) rfl (fun ls hl => ?_)
                refine lv_iload hx hb dX2_pay_103 (lv_at hl 0 rfl) ?_
                refine lv_if_eq (tgt := 110) hx hb dX2_pay_105 (by decide) (fun c105 => ?_) (fun c105 => absurd c105 (by decide))
                refine lv_aload_n hx hb dX2_pay_110 rfl (lv_at hl 1 rfl) ?_
                refine va_get (D := D) (ci := 2) (C := RX2) (T := TX2) (N := 9) hx hb hts hin2 hown hK hP 0 rfl rfl 1 (by decide) (hts (.fieldLink RX2 9 "DutyRotaModel" "held" "[I") (by decide +kernel)) (fun _ h9 => h9) rfl dX2_pay_111 ?_
                refine lv_iload_n hx hb dX2_pay_114 rfl (lv_at hl 2 rfl) ?_
                refine rw_ild hx hb hK hP 1 0 rfl rfl (j := a) (ea) (ha) (by decide) dX2_pay_115 ?_
                refine lv_iconst (v := -1) hx hb dX2_pay_116 (by decide) ?_
                refine lv_icmp_eq (tgt := 140) hx hb dX2_pay_117 (by decide) (fun c117 => by exact absurd (mV_9 (hd_m1 hH ha c117)) oka) (fun c117 => ?_)
                refine lv_aload_n hx hb dX2_pay_120 rfl (lv_at hl 1 rfl) ?_
                refine va_get (D := D) (ci := 2) (C := RX2) (T := TX2) (N := 9) hx hb hts hin2 hown hK hP 0 rfl rfl 1 (by decide) (hts (.fieldLink RX2 9 "DutyRotaModel" "held" "[I") (by decide +kernel)) (fun _ h9 => h9) rfl dX2_pay_121 ?_
                refine lv_iload_n hx hb dX2_pay_124 rfl (lv_at hl 3 rfl) ?_
                refine rw_ild hx hb hK hP 1 0 rfl rfl (j := b) (eb) (hb8) (by decide) dX2_pay_125 ?_
                refine lv_iconst (v := -1) hx hb dX2_pay_126 (by decide) ?_
                refine lv_icmp_eq (tgt := 140) hx hb dX2_pay_127 (by decide) (fun c127 => ?_) (fun c127 => by exact absurd sb (hN6 (hd_t hH hb8 c127).1))
                refine lv_iconst (v := 1) hx hb dX2_pay_140 (by decide) ?_
                exact W.iret (v := 1) hx hb hr (fun t ht _ => ⟨⟨_, (0, pu), rfl, Or.inr ⟨rfl, a, b, d, ha, hb8, hd8, ea, eb, ed, Or.inr ⟨fun q => q.elim nwa (fun q => q.elim nwb nwd), Or.inl ⟨Or.inr (Or.inl sb), rfl, rfl⟩⟩⟩, by rw [ht]; exact hP, hD⟩, hS.F ht⟩) hS.2.2 dX2_pay_141
          · skip
            refine lv_iconst (v := 1) hx hb dX2_pay_63 (by decide) ?_
            refine lv_goto (tgt := 68) hx hb dX2_pay_64 (by decide) ?_
            refine vp_callSi (W.runV (As := [.int y, .int 1]) (rest := []) ⟨hx, hb, hml, hown, hts⟩ (c_X2_isWrong l D ci ad z F 0 hd mk sz ce as np kd pu Hg Z y 1 b hH hZ hb8 eb) (cwV 2 hts gX2_pay_X2_isWrong rfl rfl rfl (by decide +kernel) ⟨Nat.le_of_ble_eq_true rfl, Nat.le_of_ble_eq_true rfl⟩) ⟨WD.fb, (va_recv hK hP (ci := 2) (q0 := 0) rfl rfl), fun U hU hW => ⟨rfl, WD.call hP hD hK hE hS hU hW⟩⟩ rfl rfl hl.1 rfl (lv_room (Nat.le_of_ble_eq_true rfl)) dX2_pay_68 ⟨Nat.le_of_ble_eq_true rfl, Nat.le_of_ble_eq_true rfl⟩) (fun r68 hw68 => ?_)
            rcases hw68 with ⟨rfl, h68⟩ | ⟨rfl, h68⟩
            · exact absurd h68.2 (by decide)
            have nwb : ¬ (¬ (mV mk (Hg b)) = 6 ∧ ¬ fam (mV mk (Hg b)) = 3) := fun q => q.2 ((fm_k (by decide) (by decide)).mpr c60)
            have okb : ¬ (mV mk (Hg b)) = 6 := fun e => absurd (e.symm.trans c60) (by decide)
            refine lv_if_ne (tgt := 96) hx hb dX2_pay_71 (by decide) (fun c71 => absurd c71 (by decide)) (fun c71 => ?_)
            refine lv_aload_n hx hb dX2_pay_74 rfl (lv_at hl 0 rfl) ?_
            refine lv_iload_n hx hb dX2_pay_75 rfl (lv_at hl 3 rfl) ?_
            refine lv_aload_n hx hb dX2_pay_76 rfl (lv_at hl 0 rfl) ?_
            refine lv_iload_n hx hb dX2_pay_77 rfl (lv_at hl 3 rfl) ?_
            refine vp_callSi (W.runV (As := [.int t]) (rest := [.int t, .ref (ad 30)]) ⟨hx, hb, hml, hown, hts⟩ (c_X2_makeOf l D ci ad z F 0 hd mk sz ce as np kd pu Hg Z t d hH hZ hd8 ed) (cwV 1 hts gX2_pay_X2_makeOf rfl rfl rfl (by decide +kernel) ⟨Nat.le_of_ble_eq_true rfl, Nat.le_of_ble_eq_true rfl⟩) ⟨WD.fb, (va_recv hK hP (ci := 2) (q0 := 0) rfl rfl), fun U hU hW => ⟨rfl, WD.call hP hD hK hE hS hU hW⟩⟩ rfl rfl hl.1 rfl (lv_room (Nat.le_of_ble_eq_true rfl)) dX2_pay_78 ⟨Nat.le_of_ble_eq_true rfl, Nat.le_of_ble_eq_true rfl⟩) (fun r78 hw78 => ?_)
            subst hw78
            refine lv_iconst (v := 4) hx hb dX2_pay_81 (by decide) ?_
            refine lv_icmp_ne (tgt := 89) hx hb dX2_pay_82 (by decide) (fun c82 => ?_) (fun c82 => ?_)
            · skip
              refine lv_iconst (v := 0) hx hb dX2_pay_89 (by decide) ?_
              refine vp_callSi (W.runV (As := [.int t, .int 0]) (rest := []) ⟨hx, hb, hml, hown, hts⟩ (c_X2_isWrong l D ci ad z F 0 hd mk sz ce as np kd pu Hg Z t 0 d hH hZ hd8 ed) (cwV 2 hts gX2_pay_X2_isWrong rfl rfl rfl (by decide +kernel) ⟨Nat.le_of_ble_eq_true rfl, Nat.le_of_ble_eq_true rfl⟩) ⟨WD.fb, (va_recv hK hP (ci := 2) (q0 := 0) rfl rfl), fun U hU hW => ⟨rfl, WD.call hP hD hK hE hS hU hW⟩⟩ rfl rfl hl.1 rfl (lv_room (Nat.le_of_ble_eq_true rfl)) dX2_pay_90 ⟨Nat.le_of_ble_eq_true rfl, Nat.le_of_ble_eq_true rfl⟩) (fun r90 hw90 => ?_)
              rcases hw90 with ⟨rfl, h90⟩ | ⟨rfl, h90⟩
              · skip
                refine lv_if_eq (tgt := 100) hx hb dX2_pay_93 (by decide) (fun c93 => absurd c93 (by decide)) (fun c93 => ?_)
                refine lv_iconst (v := 1) hx hb dX2_pay_96 (by decide) ?_
                refine lv_goto (tgt := 101) hx hb dX2_pay_97 (by decide) ?_
                refine lv_istore (lv' := [(4, .int 1), (0, .ref (ad 30)), (1, .int x), (2, .int y), (3, .int t)]) hx hb dX2_pay_101 hl (by decide) rfl (fun ls hl => ?_)
                refine lv_iload hx hb dX2_pay_103 (lv_at hl 0 rfl) ?_
                refine lv_if_eq (tgt := 110) hx hb dX2_pay_105 (by decide) (fun c105 => absurd c105 (by decide)) (fun c105 => ?_)
                refine lv_iconst (v := 2) hx hb dX2_pay_108 (by decide) ?_
                exact W.iret (v := 2) hx hb hr (fun t ht _ => ⟨⟨_, (0, pu), rfl, Or.inr ⟨rfl, a, b, d, ha, hb8, hd8, ea, eb, ed, Or.inl ⟨Or.inr (Or.inr ⟨h90.1, fun e => c82 ((fm_k (by decide) (by decide)).mp e)⟩), rfl, rfl⟩⟩, by rw [ht]; exact hP, hD⟩, hS.F ht⟩) hS.2.2 dX2_pay_109
              · skip
                have sd : (mV mk (Hg d)) = 6 := Classical.byContradiction (fun q => h90 ⟨q, rfl⟩)
                have nwd : ¬ (¬ (mV mk (Hg d)) = 6 ∧ ¬ fam (mV mk (Hg d)) = 4) := fun q => q.1 sd
                refine lv_if_eq (tgt := 100) hx hb dX2_pay_93 (by decide) (fun c93 => ?_) (fun c93 => absurd c93 (by decide))
                refine lv_iconst (v := 0) hx hb dX2_pay_100 (by decide) ?_
                refine lv_istore (lv' := [(4, .int 0), (0, .ref (ad 30)), (1, .int x), (2, .int y), (3, .int t)]) hx hb dX2_pay_101 hl (by decide) rfl (fun ls hl => ?_)
                refine lv_iload hx hb dX2_pay_103 (lv_at hl 0 rfl) ?_
                refine lv_if_eq (tgt := 110) hx hb dX2_pay_105 (by decide) (fun c105 => ?_) (fun c105 => absurd c105 (by decide))
                refine lv_aload_n hx hb dX2_pay_110 rfl (lv_at hl 1 rfl) ?_
                refine va_get (D := D) (ci := 2) (C := RX2) (T := TX2) (N := 9) hx hb hts hin2 hown hK hP 0 rfl rfl 1 (by decide) (hts (.fieldLink RX2 9 "DutyRotaModel" "held" "[I") (by decide +kernel)) (fun _ h9 => h9) rfl dX2_pay_111 ?_
                refine lv_iload_n hx hb dX2_pay_114 rfl (lv_at hl 2 rfl) ?_
                refine rw_ild hx hb hK hP 1 0 rfl rfl (j := a) (ea) (ha) (by decide) dX2_pay_115 ?_
                refine lv_iconst (v := -1) hx hb dX2_pay_116 (by decide) ?_
                refine lv_icmp_eq (tgt := 140) hx hb dX2_pay_117 (by decide) (fun c117 => by exact absurd (mV_9 (hd_m1 hH ha c117)) oka) (fun c117 => ?_)
                refine lv_aload_n hx hb dX2_pay_120 rfl (lv_at hl 1 rfl) ?_
                refine va_get (D := D) (ci := 2) (C := RX2) (T := TX2) (N := 9) hx hb hts hin2 hown hK hP 0 rfl rfl 1 (by decide) (hts (.fieldLink RX2 9 "DutyRotaModel" "held" "[I") (by decide +kernel)) (fun _ h9 => h9) rfl dX2_pay_121 ?_
                refine lv_iload_n hx hb dX2_pay_124 rfl (lv_at hl 3 rfl) ?_
                refine rw_ild hx hb hK hP 1 0 rfl rfl (j := b) (eb) (hb8) (by decide) dX2_pay_125 ?_
                refine lv_iconst (v := -1) hx hb dX2_pay_126 (by decide) ?_
                refine lv_icmp_eq (tgt := 140) hx hb dX2_pay_127 (by decide) (fun c127 => by exact absurd (mV_9 (hd_m1 hH hb8 c127)) okb) (fun c127 => ?_)
                refine lv_aload_n hx hb dX2_pay_130 rfl (lv_at hl 1 rfl) ?_
                refine va_get (D := D) (ci := 2) (C := RX2) (T := TX2) (N := 9) hx hb hts hin2 hown hK hP 0 rfl rfl 1 (by decide) (hts (.fieldLink RX2 9 "DutyRotaModel" "held" "[I") (by decide +kernel)) (fun _ h9 => h9) rfl dX2_pay_131 ?_
                refine lv_iload_n hx hb dX2_pay_134 rfl (lv_at hl 4 rfl) ?_
                refine rw_ild hx hb hK hP 1 0 rfl rfl (j := d) (ed) (hd8) (by decide) dX2_pay_135 ?_
                refine lv_iconst (v := -1) hx hb dX2_pay_136 (by decide) ?_
                refine lv_icmp_ne (tgt := 142) hx hb dX2_pay_137 (by decide) (fun c137 => by exact absurd sd (hN6 (hd_t hH hd8 c137).1)) (fun c137 => ?_)
                refine lv_iconst (v := 1) hx hb dX2_pay_140 (by decide) ?_
                exact W.iret (v := 1) hx hb hr (fun t ht _ => ⟨⟨_, (0, pu), rfl, Or.inr ⟨rfl, a, b, d, ha, hb8, hd8, ea, eb, ed, Or.inr ⟨fun q => q.elim nwa (fun q => q.elim nwb nwd), Or.inl ⟨Or.inr (Or.inr sd), rfl, rfl⟩⟩⟩, by rw [ht]; exact hP, hD⟩, hS.F ht⟩) hS.2.2 dX2_pay_141
            · skip
              refine lv_iconst (v := 1) hx hb dX2_pay_85 (by decide) ?_
              refine lv_goto (tgt := 90) hx hb dX2_pay_86 (by decide) ?_
              refine vp_callSi (W.runV (As := [.int t, .int 1]) (rest := []) ⟨hx, hb, hml, hown, hts⟩ (c_X2_isWrong l D ci ad z F 0 hd mk sz ce as np kd pu Hg Z t 1 d hH hZ hd8 ed) (cwV 2 hts gX2_pay_X2_isWrong rfl rfl rfl (by decide +kernel) ⟨Nat.le_of_ble_eq_true rfl, Nat.le_of_ble_eq_true rfl⟩) ⟨WD.fb, (va_recv hK hP (ci := 2) (q0 := 0) rfl rfl), fun U hU hW => ⟨rfl, WD.call hP hD hK hE hS hU hW⟩⟩ rfl rfl hl.1 rfl (lv_room (Nat.le_of_ble_eq_true rfl)) dX2_pay_90 ⟨Nat.le_of_ble_eq_true rfl, Nat.le_of_ble_eq_true rfl⟩) (fun r90 hw90 => ?_)
              rcases hw90 with ⟨rfl, h90⟩ | ⟨rfl, h90⟩
              · exact absurd h90.2 (by decide)
              have nwd : ¬ (¬ (mV mk (Hg d)) = 6 ∧ ¬ fam (mV mk (Hg d)) = 4) := fun q => q.2 ((fm_k (by decide) (by decide)).mpr c82)
              have okd : ¬ (mV mk (Hg d)) = 6 := fun e => absurd (e.symm.trans c82) (by decide)
              refine lv_if_eq (tgt := 100) hx hb dX2_pay_93 (by decide) (fun c93 => ?_) (fun c93 => absurd c93 (by decide))
              refine lv_iconst (v := 0) hx hb dX2_pay_100 (by decide) ?_
              refine lv_istore (lv' := [(4, .int 0), (0, .ref (ad 30)), (1, .int x), (2, .int y), (3, .int t)]) hx hb dX2_pay_101 hl (by decide) rfl (fun ls hl => ?_)
              refine lv_iload hx hb dX2_pay_103 (lv_at hl 0 rfl) ?_
              refine lv_if_eq (tgt := 110) hx hb dX2_pay_105 (by decide) (fun c105 => ?_) (fun c105 => absurd c105 (by decide))
              refine lv_aload_n hx hb dX2_pay_110 rfl (lv_at hl 1 rfl) ?_
              refine va_get (D := D) (ci := 2) (C := RX2) (T := TX2) (N := 9) hx hb hts hin2 hown hK hP 0 rfl rfl 1 (by decide) (hts (.fieldLink RX2 9 "DutyRotaModel" "held" "[I") (by decide +kernel)) (fun _ h9 => h9) rfl dX2_pay_111 ?_
              refine lv_iload_n hx hb dX2_pay_114 rfl (lv_at hl 2 rfl) ?_
              refine rw_ild hx hb hK hP 1 0 rfl rfl (j := a) (ea) (ha) (by decide) dX2_pay_115 ?_
              refine lv_iconst (v := -1) hx hb dX2_pay_116 (by decide) ?_
              refine lv_icmp_eq (tgt := 140) hx hb dX2_pay_117 (by decide) (fun c117 => by exact absurd (mV_9 (hd_m1 hH ha c117)) oka) (fun c117 => ?_)
              refine lv_aload_n hx hb dX2_pay_120 rfl (lv_at hl 1 rfl) ?_
              refine va_get (D := D) (ci := 2) (C := RX2) (T := TX2) (N := 9) hx hb hts hin2 hown hK hP 0 rfl rfl 1 (by decide) (hts (.fieldLink RX2 9 "DutyRotaModel" "held" "[I") (by decide +kernel)) (fun _ h9 => h9) rfl dX2_pay_121 ?_
              refine lv_iload_n hx hb dX2_pay_124 rfl (lv_at hl 3 rfl) ?_
              refine rw_ild hx hb hK hP 1 0 rfl rfl (j := b) (eb) (hb8) (by decide) dX2_pay_125 ?_
              refine lv_iconst (v := -1) hx hb dX2_pay_126 (by decide) ?_
              refine lv_icmp_eq (tgt := 140) hx hb dX2_pay_127 (by decide) (fun c127 => by exact absurd (mV_9 (hd_m1 hH hb8 c127)) okb) (fun c127 => ?_)
              refine lv_aload_n hx hb dX2_pay_130 rfl (lv_at hl 1 rfl) ?_
              refine va_get (D := D) (ci := 2) (C := RX2) (T := TX2) (N := 9) hx hb hts hin2 hown hK hP 0 rfl rfl 1 (by decide) (hts (.fieldLink RX2 9 "DutyRotaModel" "held" "[I") (by decide +kernel)) (fun _ h9 => h9) rfl dX2_pay_131 ?_
              refine lv_iload_n hx hb dX2_pay_134 rfl (lv_at hl 4 rfl) ?_
              refine rw_ild hx hb hK hP 1 0 rfl rfl (j := d) (ed) (hd8) (by decide) dX2_pay_135 ?_
              refine lv_iconst (v := -1) hx hb dX2_pay_136 (by decide) ?_
              refine lv_icmp_ne (tgt := 142) hx hb dX2_pay_137 (by decide) (fun c137 => ?_) (fun c137 => by exact absurd (mV_9 (hd_m1 hH hd8 c137)) okd)
              have hta := hd_9 hH ha (mV_n6 oka)
              have htb := hd_9 hH hb8 (mV_n6 okb)
              have htd := hd_9 hH hd8 (mV_n6 okd)
              have hSa : sV mk Z (Hg a) ≤ 40 := sV_40 hZ (hH a ha).1
              have hSb : sV mk Z (Hg b) ≤ 40 := sV_40 hZ (hH b hb8).1
              have hSd : sV mk Z (Hg d) ≤ 40 := sV_40 hZ (hH d hd8).1
              refine lv_iconst (v := 0) hx hb dX2_pay_142 (by decide) ?_
              refine lv_istore (lv' := [(5, .int 0), (4, .int 0), (0, .ref (ad 30)), (1, .int x), (2, .int y), (3, .int t)]) hx hb dX2_pay_143 hl (by decide) rfl (fun ls hl => ?_)
              have loop145 : ∀ (d145 : Nat) (q : Nat) (pu1 : Nat → Int64) (hd145 : sV mk Z (Hg a) + 1 ≤ q + d145) (hq : q ≤ sV mk Z (Hg a)) (hin : ∀ p, p < q → p < sV mk Z (Hg b) ∧ p < sV mk Z (Hg d)) (hpu : pu1 = paid kd np (rV ce (Hg a)) (rV ce (Hg b)) (rV ce (Hg d)) pu q) (H : Heap) (locs : List Loc) (hP : va_P D vwCl (wM ci ad 0 hd mk sz ce as np kd pu1 ++ F) H) (hD : va_D (LA z) (wM ci ad 0 hd mk sz ce as np kd pu1 ++ F)) (hS : va_S (LA z) s.heap H locs) (ls : Array Slot) (hl : lv_has ls 9 [(5, .int (nI q)), (4, .int 0), (0, .ref (ad 30)), (1, .int x), (2, .int y), (3, .int t)]), W p l e ({ frames := 2, cells := 0, slots := 0, locals := 43 } : Room) s m ([.ref (ad 30), .int x, .int y, .int t] : List Value).toArray below meth c H locs 0 0 (MQ below (va_Qi (fun (r : Int32) (u : Int32 × (Nat → Int64)) => (u.1 = 1 ∧ (badH x ∨ badH y ∨ badH t) ∧ u.2 = pu) ∨ (u.1 = 0 ∧ ∃ a b d, a < 8 ∧ b < 8 ∧ d < 8 ∧ x = nI a ∧ y = nI b ∧ t = nI d ∧ payP (mV mk (Hg a)) (mV mk (Hg b)) (mV mk (Hg d)) (sV mk Z (Hg a)) (sV mk Z (Hg b)) (sV mk Z (Hg d)) (rV ce (Hg a)) (rV ce (Hg b)) (rV ce (Hg d)) kd np pu r u.2)) (fun u t => va_P D vwCl (wM ci ad u.1 hd mk sz ce as np kd u.2 ++ F) t.heap ∧ va_D (LA z) (wM ci ad u.1 hd mk sz ce as np kd u.2 ++ F)) (LA z)) ([.ref (ad 30), .int x, .int y, .int t] : List Value).toArray s 0 0 (LA z)) (F0 m 145 ls []) := by
                intro d145
                induction d145 with
                | zero => intro q pu1 hd145 hq hin hpu H locs hP hD hS ls hl; exact absurd hd145 (by omega)
                | succ d145 ih145 =>
                  intro q pu1 hd145 hq hin hpu H locs hP hD hS ls hl
                  refine lv_iload hx hb dX2_pay_145 (lv_at hl 0 rfl) ?_
                  refine lv_aload_n hx hb dX2_pay_147 rfl (lv_at hl 2 rfl) ?_
                  refine lv_iload_n hx hb dX2_pay_148 rfl (lv_at hl 3 rfl) ?_
                  refine vp_callSi (W.runV (As := [.int x]) (rest := [.int (nI q)]) ⟨hx, hb, hml, hown, hts⟩ (c_X2_sizeOf l D ci ad z F 0 hd mk sz ce as np kd pu1 Hg Z x a hH hZ ha ea) (cwV 1 hts gX2_pay_X2_sizeOf rfl rfl rfl (by decide +kernel) ⟨Nat.le_of_ble_eq_true rfl, Nat.le_of_ble_eq_true rfl⟩) ⟨WD.fb, (va_recv hK hP (ci := 2) (q0 := 0) rfl rfl), fun U hU hW => ⟨rfl, WD.call hP hD hK hE hS hU hW⟩⟩ rfl rfl hl.1 rfl (lv_room (Nat.le_of_ble_eq_true rfl)) dX2_pay_149 ⟨Nat.le_of_ble_eq_true rfl, Nat.le_of_ble_eq_true rfl⟩) (fun r149 hw149 => ?_)
                  subst hw149
                  refine lv_icmp_ge (tgt := 275) hx hb dX2_pay_152 (by decide) (fun c152 => ?_) (fun c152 => ?_)
                  · skip
                    have hE9 : q = sV mk Z (Hg a) := by have := nI_ge_of c152 (by omega) (by omega); omega
                    refine lv_iconst (v := 0) hx hb dX2_pay_275 (by decide) ?_
                    exact W.iret (v := 0) hx hb hr (fun t ht _ => ⟨⟨_, (0, pu1), rfl, Or.inr ⟨rfl, a, b, d, ha, hb8, hd8, ea, eb, ed, Or.inr ⟨fun q => q.elim nwa (fun q => q.elim nwb nwd), Or.inr ⟨fun q => q.elim oka (fun q => q.elim okb okd), q, hq, hin, hpu, Or.inl ⟨hE9, rfl⟩⟩⟩⟩, by rw [ht]; exact hP, hD⟩, hS.F ht⟩) hS.2.2 dX2_pay_276
                  · skip
                    have hE9 : q < sV mk Z (Hg a) := nI_lt_of c152 (by omega) (by omega)
                    refine lv_iload hx hb dX2_pay_155 (lv_at hl 0 rfl) ?_
                    refine lv_aload_n hx hb dX2_pay_157 rfl (lv_at hl 2 rfl) ?_
                    refine lv_iload_n hx hb dX2_pay_158 rfl (lv_at hl 4 rfl) ?_
                    refine vp_callSi (W.runV (As := [.int y]) (rest := [.int (nI q)]) ⟨hx, hb, hml, hown, hts⟩ (c_X2_sizeOf l D ci ad z F 0 hd mk sz ce as np kd pu1 Hg Z y b hH hZ hb8 eb) (cwV 1 hts gX2_pay_X2_sizeOf rfl rfl rfl (by decide +kernel) ⟨Nat.le_of_ble_eq_true rfl, Nat.le_of_ble_eq_true rfl⟩) ⟨WD.fb, (va_recv hK hP (ci := 2) (q0 := 0) rfl rfl), fun U hU hW => ⟨rfl, WD.call hP hD hK hE hS hU hW⟩⟩ rfl rfl hl.1 rfl (lv_room (Nat.le_of_ble_eq_true rfl)) dX2_pay_159 ⟨Nat.le_of_ble_eq_true rfl, Nat.le_of_ble_eq_true rfl⟩) (fun r159 hw159 => ?_)
                    subst hw159
                    refine lv_icmp_ge (tgt := 175) hx hb dX2_pay_162 (by decide) (fun c162 => ?_) (fun c162 => ?_)
                    · skip
                      have hqb : ¬ q < sV mk Z (Hg b) := by have := nI_ge_of c162 (by omega) (by omega); omega
                      refine lv_iconst (v := 3) hx hb dX2_pay_175 (by decide) ?_
                      exact W.iret (v := 3) hx hb hr (fun t ht _ => ⟨⟨_, (0, pu1), rfl, Or.inr ⟨rfl, a, b, d, ha, hb8, hd8, ea, eb, ed, Or.inr ⟨fun q => q.elim nwa (fun q => q.elim nwb nwd), Or.inr ⟨fun q => q.elim oka (fun q => q.elim okb okd), q, hq, hin, hpu, Or.inr ⟨hE9, fun h => hqb h.1, rfl⟩⟩⟩⟩, by rw [ht]; exact hP, hD⟩, hS.F ht⟩) hS.2.2 dX2_pay_176
                    · skip
                      have hqb : q < sV mk Z (Hg b) := nI_lt_of c162 (by omega) (by omega)
                      refine lv_iload hx hb dX2_pay_165 (lv_at hl 0 rfl) ?_
                      refine lv_aload_n hx hb dX2_pay_167 rfl (lv_at hl 2 rfl) ?_
                      refine lv_iload_n hx hb dX2_pay_168 rfl (lv_at hl 5 rfl) ?_
                      refine vp_callSi (W.runV (As := [.int t]) (rest := [.int (nI q)]) ⟨hx, hb, hml, hown, hts⟩ (c_X2_sizeOf l D ci ad z F 0 hd mk sz ce as np kd pu1 Hg Z t d hH hZ hd8 ed) (cwV 1 hts gX2_pay_X2_sizeOf rfl rfl rfl (by decide +kernel) ⟨Nat.le_of_ble_eq_true rfl, Nat.le_of_ble_eq_true rfl⟩) ⟨WD.fb, (va_recv hK hP (ci := 2) (q0 := 0) rfl rfl), fun U hU hW => ⟨rfl, WD.call hP hD hK hE hS hU hW⟩⟩ rfl rfl hl.1 rfl (lv_room (Nat.le_of_ble_eq_true rfl)) dX2_pay_169 ⟨Nat.le_of_ble_eq_true rfl, Nat.le_of_ble_eq_true rfl⟩) (fun r169 hw169 => ?_)
                      subst hw169
                      refine lv_icmp_lt (tgt := 177) hx hb dX2_pay_172 (by decide) (fun c172 => ?_) (fun c172 => ?_)
                      · skip
                        have hqd : q < sV mk Z (Hg d) := (nI_ltI (by omega) (by omega)).mp c172
                        refine lv_aload_n hx hb dX2_pay_177 rfl (lv_at hl 2 rfl) ?_
                        refine va_get (D := D) (ci := 2) (C := RX2) (T := TX2) (N := 9) hx hb hts hin2 hown hK hP 0 rfl rfl 4 (by decide) (hts (.fieldLink RX2 19 "DutyRotaModel" "cells" "[J") (by decide +kernel)) (fun _ h9 => h9) rfl dX2_pay_178 ?_
                        refine lv_bipush (v := 40) hx hb dX2_pay_181 (by decide) ?_
                        refine lv_aload_n hx hb dX2_pay_183 rfl (lv_at hl 2 rfl) ?_
                        refine va_get (D := D) (ci := 2) (C := RX2) (T := TX2) (N := 9) hx hb hts hin2 hown hK hP 0 rfl rfl 1 (by decide) (hts (.fieldLink RX2 9 "DutyRotaModel" "held" "[I") (by decide +kernel)) (fun _ h9 => h9) rfl dX2_pay_184 ?_
                        refine lv_iload_n hx hb dX2_pay_187 rfl (lv_at hl 3 rfl) ?_
                        refine rw_ild hx hb hK hP 1 0 rfl rfl (j := a) (ea) (ha) (by decide) dX2_pay_188 ?_
                        refine rw_topi (y := (nI (Hg a))) (hta.2) ?_
                        refine lv_imul hx hb dX2_pay_189 ?_
                        refine rw_topi (y := (nI (40 * Hg a))) (ix40' _) ?_
                        refine lv_iload hx hb dX2_pay_190 (lv_at hl 0 rfl) ?_
                        refine lv_iadd hx hb dX2_pay_192 ?_
                        refine rw_topi (y := (nI (40 * Hg a + q))) (nI_add _ _) ?_
                        refine rw_lld hx hb hK hP 4 1 rfl rfl (j := (40 * Hg a + q)) (rfl) (by omega) (by decide) dX2_pay_193 ?_
                        refine lv_l2i hx hb dX2_pay_194 rfl ?_
                        refine lv_topi (fun x_1 ex_1 => ?_)
                        refine lv_istore (lv' := [(6, .int x_1), (5, .int (nI q)), (4, .int 0), (0, .ref (ad 30)), (1, .int x), (2, .int y), (3, .int t)]) hx hb dX2_pay_195 hl (by decide) rfl (fun ls hl => ?_)
                        refine lv_iload hx hb dX2_pay_197 (lv_at hl 0 rfl) ?_
                        refine lv_iconst (v := -1) hx hb dX2_pay_199 (by decide) ?_
                        refine lv_icmp_eq (tgt := 269) hx hb dX2_pay_200 (by decide) (fun c200 => ?_) (fun c200 => ?_)
                        · skip
                          have hok : okV np (rV ce (Hg a) q) := hRO a ha h43 q (by omega)
                          refine lv_iinc (v := (nI (q + 1))) (lv' := [(5, .int (nI (q + 1))), (6, .int x_1), (4, .int 0), (0, .ref (ad 30)), (1, .int x), (2, .int y), (3, .int t)]) hx hb dX2_pay_269 hl (k := 1) rfl (nI_1 _) (by decide) rfl (fun ls hl => ?_)
                          refine lv_goto (tgt := 145) hx hb dX2_pay_272 (by decide) ?_
                          exact ih145 (q + 1) pu1 (by omega) (by omega) (lt_s hin ⟨hqb, hqd⟩) (by show _ = payStep kd np (paid kd np (rV ce (Hg a)) (rV ce (Hg b)) (rV ce (Hg d)) pu q) _ _ _; rw [pay_m1 (l2i_m1 hN hok (ex_1.symm.trans c200))]; exact hpu) H locs hP hD hS ls (lv_sub hl [0, 2, 3, 4, 5, 6] rfl)
                        · skip
                          have hok : okV np (rV ce (Hg a) q) := hRO a ha h43 q (by omega)
                          obtain ⟨p9, hp9, ep9⟩ := l2i_k hok (fun e => c200 (ex_1.trans e))
                          have exp : x_1 = nI p9 := by rw [ex_1]; show (rV ce (Hg a) q).toInt32 = _; rw [ep9, lN_i]
                          refine lv_aload_n hx hb dX2_pay_203 rfl (lv_at hl 3 rfl) ?_
                          refine va_get (D := D) (ci := 2) (C := RX2) (T := TX2) (N := 9) hx hb hts hin2 hown hK hP 0 rfl rfl 4 (by decide) (hts (.fieldLink RX2 19 "DutyRotaModel" "cells" "[J") (by decide +kernel)) (fun _ h9 => h9) rfl dX2_pay_204 ?_
                          refine lv_bipush (v := 40) hx hb dX2_pay_207 (by decide) ?_
                          refine lv_aload_n hx hb dX2_pay_209 rfl (lv_at hl 3 rfl) ?_
                          refine va_get (D := D) (ci := 2) (C := RX2) (T := TX2) (N := 9) hx hb hts hin2 hown hK hP 0 rfl rfl 1 (by decide) (hts (.fieldLink RX2 9 "DutyRotaModel" "held" "[I") (by decide +kernel)) (fun _ h9 => h9) rfl dX2_pay_210 ?_
                          refine lv_iload_n hx hb dX2_pay_213 rfl (lv_at hl 5 rfl) ?_
                          refine rw_ild hx hb hK hP 1 0 rfl rfl (j := b) (eb) (hb8) (by decide) dX2_pay_214 ?_
                          refine rw_topi (y := (nI (Hg b))) (htb.2) ?_
                          refine lv_imul hx hb dX2_pay_215 ?_
                          refine rw_topi (y := (nI (40 * Hg b))) (ix40' _) ?_
                          refine lv_iload hx hb dX2_pay_216 (lv_at hl 1 rfl) ?_
                          refine lv_iadd hx hb dX2_pay_218 ?_
                          refine rw_topi (y := (nI (40 * Hg b + q))) (nI_add _ _) ?_
                          refine rw_lld hx hb hK hP 4 1 rfl rfl (j := (40 * Hg b + q)) (rfl) (by omega) (by decide) dX2_pay_219 ?_
                          refine lv_aload_n hx hb dX2_pay_220 rfl (lv_at hl 3 rfl) ?_
                          refine va_get (D := D) (ci := 2) (C := RX2) (T := TX2) (N := 9) hx hb hts hin2 hown hK hP 0 rfl rfl 7 (by decide) (hts (.fieldLink RX2 26 "DutyRotaModel" "kinds" "[I") (by decide +kernel)) (fun _ h9 => h9) rfl dX2_pay_221 ?_
                          refine lv_iload hx hb dX2_pay_224 (lv_at hl 0 rfl) ?_
                          refine rw_ild hx hb hK hP 6 0 rfl rfl (j := p9) (exp) (by omega) (by decide) dX2_pay_226 ?_
                          refine vp_callSi (W.runS (As := [.int (kd p9)]) (rest := [.long (ce (40 * Hg b + q))]) ⟨hx, hb, hml, hown, hts⟩ (c_X2_rate l (kd p9) ) (va_cwS 1 hts gX2_pay_X2_rate rfl rfl rfl (by decide +kernel) ⟨Nat.le_of_ble_eq_true rfl, Nat.le_of_ble_eq_true rfl⟩) ⟨fb0, fun U hU hW => ⟨rfl, trivial⟩⟩ rfl rfl hl.1 rfl (lv_room (Nat.le_of_ble_eq_true rfl)) dX2_pay_227 ⟨Nat.le_of_ble_eq_true rfl, Nat.le_of_ble_eq_true rfl⟩) (fun r227 hw227 => ?_)
                          subst hw227
                          refine lv_i2l hx hb dX2_pay_230 rfl ?_
                          refine lv_lmul hx hb dX2_pay_231 ?_
                          refine lv_topl (fun y_2 ey_2 => ?_)
                          refine lv_lstore (lv' := [(7, .long y_2), (6, .int x_1), (5, .int (nI q)), (4, .int 0), (0, .ref (ad 30)), (1, .int x), (2, .int y), (3, .int t)]) hx hb dX2_pay_232 hl (by decide) rfl (fun ls hl => ?_)
                          refine lv_aload_n hx hb dX2_pay_234 rfl (lv_at hl 4 rfl) ?_
                          refine va_get (D := D) (ci := 2) (C := RX2) (T := TX2) (N := 9) hx hb hts hin2 hown hK hP 0 rfl rfl 8 (by decide) (hts (.fieldLink RX2 29 "DutyRotaModel" "purses" "[J") (by decide +kernel)) (fun _ h9 => h9) rfl dX2_pay_235 ?_
                          refine lv_iload hx hb dX2_pay_238 (lv_at hl 1 rfl) ?_
                          refine lv_aload_n hx hb dX2_pay_240 rfl (lv_at hl 4 rfl) ?_
                          refine va_get (D := D) (ci := 2) (C := RX2) (T := TX2) (N := 9) hx hb hts hin2 hown hK hP 0 rfl rfl 8 (by decide) (hts (.fieldLink RX2 29 "DutyRotaModel" "purses" "[J") (by decide +kernel)) (fun _ h9 => h9) rfl dX2_pay_241 ?_
                          refine lv_iload hx hb dX2_pay_244 (lv_at hl 1 rfl) ?_
                          refine rw_lld hx hb hK hP 7 1 rfl rfl (j := p9) (exp) (by omega) (by decide) dX2_pay_246 ?_
                          refine lv_lload hx hb dX2_pay_247 (lv_at hl 0 rfl) ?_
                          refine lv_ladd hx hb dX2_pay_249 ?_
                          refine lv_aload_n hx hb dX2_pay_250 rfl (lv_at hl 4 rfl) ?_
                          refine va_get (D := D) (ci := 2) (C := RX2) (T := TX2) (N := 9) hx hb hts hin2 hown hK hP 0 rfl rfl 4 (by decide) (hts (.fieldLink RX2 19 "DutyRotaModel" "cells" "[J") (by decide +kernel)) (fun _ h9 => h9) rfl dX2_pay_251 ?_
                          refine lv_bipush (v := 40) hx hb dX2_pay_254 (by decide) ?_
                          refine lv_aload_n hx hb dX2_pay_256 rfl (lv_at hl 4 rfl) ?_
                          refine va_get (D := D) (ci := 2) (C := RX2) (T := TX2) (N := 9) hx hb hts hin2 hown hK hP 0 rfl rfl 1 (by decide) (hts (.fieldLink RX2 9 "DutyRotaModel" "held" "[I") (by decide +kernel)) (fun _ h9 => h9) rfl dX2_pay_257 ?_
                          refine lv_iload_n hx hb dX2_pay_260 rfl (lv_at hl 7 rfl) ?_
                          refine rw_ild hx hb hK hP 1 0 rfl rfl (j := d) (ed) (hd8) (by decide) dX2_pay_261 ?_
                          refine rw_topi (y := (nI (Hg d))) (htd.2) ?_
                          refine lv_imul hx hb dX2_pay_262 ?_
                          refine rw_topi (y := (nI (40 * Hg d))) (ix40' _) ?_
                          refine lv_iload hx hb dX2_pay_263 (lv_at hl 2 rfl) ?_
                          refine lv_iadd hx hb dX2_pay_265 ?_
                          refine rw_topi (y := (nI (40 * Hg d + q))) (nI_add _ _) ?_
                          refine rw_lld hx hb hK hP 4 1 rfl rfl (j := (40 * Hg d + q)) (rfl) (by omega) (by decide) dX2_pay_266 ?_
                          refine lv_ladd hx hb dX2_pay_267 ?_
                          refine rw_lst hx hb hK hP hD hS 7 1 rfl rfl (j := p9) (exp) (by omega) (by decide) (ws' := wM ci ad 0 hd mk sz ce as np kd (vp_updL pu1 p9 (((pu1 p9) + y_2) + (ce (40 * Hg d + q)))) ++ F) rfl dX2_pay_268 (fun H locs hP hD hS => ?_)
                          refine lv_iinc (v := (nI (q + 1))) (lv' := [(5, .int (nI (q + 1))), (7, .long y_2), (6, .int x_1), (4, .int 0), (0, .ref (ad 30)), (1, .int x), (2, .int y), (3, .int t)]) hx hb dX2_pay_269 hl (k := 2) rfl (nI_1 _) (by decide) rfl (fun ls hl => ?_)
                          refine lv_goto (tgt := 145) hx hb dX2_pay_272 (by decide) ?_
                          exact ih145 (q + 1) (vp_updL pu1 p9 (((pu1 p9) + y_2) + (ce (40 * Hg d + q)))) (by omega) (by omega) (lt_s hin ⟨hqb, hqd⟩) (by show _ = payStep kd np (paid kd np (rV ce (Hg a)) (rV ce (Hg b)) (rV ce (Hg d)) pu q) _ _ _; rw [payStep_yes hN hp9 ep9, ← hpu, ey_2, Int64.add_assoc]; rfl) H locs hP hD hS ls (lv_sub hl [0, 3, 4, 5, 6, 7] rfl)
                      · skip
                        have hqd : ¬ q < sV mk Z (Hg d) := fun h => c172 ((nI_ltI (by omega) (by omega)).mpr h)
                        refine lv_iconst (v := 3) hx hb dX2_pay_175 (by decide) ?_
                        exact W.iret (v := 3) hx hb hr (fun t ht _ => ⟨⟨_, (0, pu1), rfl, Or.inr ⟨rfl, a, b, d, ha, hb8, hd8, ea, eb, ed, Or.inr ⟨fun q => q.elim nwa (fun q => q.elim nwb nwd), Or.inr ⟨fun q => q.elim oka (fun q => q.elim okb okd), q, hq, hin, hpu, Or.inr ⟨hE9, fun h => hqd h.2, rfl⟩⟩⟩⟩, by rw [ht]; exact hP, hD⟩, hS.F ht⟩) hS.2.2 dX2_pay_176
              exact loop145 (sV mk Z (Hg a) + 1) 0 pu (by omega) (by omega) (fun p h => absurd h (by omega)) (rfl) H locs hP hD hS ls (lv_sub hl [0, 1, 2, 3, 4, 5] rfl)
        · skip
          refine vp_callSi (W.runV (As := [.int x, .int 0]) (rest := []) ⟨hx, hb, hml, hown, hts⟩ (c_X2_isWrong l D ci ad z F 0 hd mk sz ce as np kd pu Hg Z x 0 a hH hZ ha ea) (cwV 2 hts gX2_pay_X2_isWrong rfl rfl rfl (by decide +kernel) ⟨Nat.le_of_ble_eq_true rfl, Nat.le_of_ble_eq_true rfl⟩) ⟨WD.fb, (va_recv hK hP (ci := 2) (q0 := 0) rfl rfl), fun U hU hW => ⟨rfl, WD.call hP hD hK hE hS hU hW⟩⟩ rfl rfl hl.1 rfl (lv_room (Nat.le_of_ble_eq_true rfl)) dX2_pay_46 ⟨Nat.le_of_ble_eq_true rfl, Nat.le_of_ble_eq_true rfl⟩) (fun r46 hw46 => ?_)
          rcases hw46 with ⟨rfl, h46⟩ | ⟨rfl, h46⟩
          · skip
            refine lv_if_ne (tgt := 96) hx hb dX2_pay_49 (by decide) (fun c49 => ?_) (fun c49 => absurd c49 (by decide))
            refine lv_iconst (v := 1) hx hb dX2_pay_96 (by decide) ?_
            refine lv_goto (tgt := 101) hx hb dX2_pay_97 (by decide) ?_
            refine lv_istore (lv' := [(4, .int 1), (0, .ref (ad 30)), (1, .int x), (2, .int y), (3, .int t)]) hx hb dX2_pay_101 hl (by decide) rfl (fun ls hl => ?_)
            refine lv_iload hx hb dX2_pay_103 (lv_at hl 0 rfl) ?_
            refine lv_if_eq (tgt := 110) hx hb dX2_pay_105 (by decide) (fun c105 => absurd c105 (by decide)) (fun c105 => ?_)
            refine lv_iconst (v := 2) hx hb dX2_pay_108 (by decide) ?_
            exact W.iret (v := 2) hx hb hr (fun t ht _ => ⟨⟨_, (0, pu), rfl, Or.inr ⟨rfl, a, b, d, ha, hb8, hd8, ea, eb, ed, Or.inl ⟨Or.inl ⟨h46.1, fun e => h43 (by unfold fam at e; rw [if_neg h43] at e; rw [e]; decide)⟩, rfl, rfl⟩⟩, by rw [ht]; exact hP, hD⟩, hS.F ht⟩) hS.2.2 dX2_pay_109
          · skip
            have sa : (mV mk (Hg a)) = 6 := Classical.byContradiction (fun q => h46 ⟨q, rfl⟩)
            have nwa : ¬ (¬ (mV mk (Hg a)) = 6 ∧ ¬ fam (mV mk (Hg a)) = 0) := fun q => q.1 sa
            refine lv_if_ne (tgt := 96) hx hb dX2_pay_49 (by decide) (fun c49 => absurd c49 (by decide)) (fun c49 => ?_)
            refine lv_aload_n hx hb dX2_pay_52 rfl (lv_at hl 0 rfl) ?_
            refine lv_iload_n hx hb dX2_pay_53 rfl (lv_at hl 2 rfl) ?_
            refine lv_aload_n hx hb dX2_pay_54 rfl (lv_at hl 0 rfl) ?_
            refine lv_iload_n hx hb dX2_pay_55 rfl (lv_at hl 2 rfl) ?_
            refine vp_callSi (W.runV (As := [.int y]) (rest := [.int y, .ref (ad 30)]) ⟨hx, hb, hml, hown, hts⟩ (c_X2_makeOf l D ci ad z F 0 hd mk sz ce as np kd pu Hg Z y b hH hZ hb8 eb) (cwV 1 hts gX2_pay_X2_makeOf rfl rfl rfl (by decide +kernel) ⟨Nat.le_of_ble_eq_true rfl, Nat.le_of_ble_eq_true rfl⟩) ⟨WD.fb, (va_recv hK hP (ci := 2) (q0 := 0) rfl rfl), fun U hU hW => ⟨rfl, WD.call hP hD hK hE hS hU hW⟩⟩ rfl rfl hl.1 rfl (lv_room (Nat.le_of_ble_eq_true rfl)) dX2_pay_56 ⟨Nat.le_of_ble_eq_true rfl, Nat.le_of_ble_eq_true rfl⟩) (fun r56 hw56 => ?_)
            subst hw56
            refine lv_iconst (v := 3) hx hb dX2_pay_59 (by decide) ?_
            refine lv_icmp_ne (tgt := 67) hx hb dX2_pay_60 (by decide) (fun c60 => ?_) (fun c60 => ?_)
            · skip
              refine lv_iconst (v := 0) hx hb dX2_pay_67 (by decide) ?_
              refine vp_callSi (W.runV (As := [.int y, .int 0]) (rest := []) ⟨hx, hb, hml, hown, hts⟩ (c_X2_isWrong l D ci ad z F 0 hd mk sz ce as np kd pu Hg Z y 0 b hH hZ hb8 eb) (cwV 2 hts gX2_pay_X2_isWrong rfl rfl rfl (by decide +kernel) ⟨Nat.le_of_ble_eq_true rfl, Nat.le_of_ble_eq_true rfl⟩) ⟨WD.fb, (va_recv hK hP (ci := 2) (q0 := 0) rfl rfl), fun U hU hW => ⟨rfl, WD.call hP hD hK hE hS hU hW⟩⟩ rfl rfl hl.1 rfl (lv_room (Nat.le_of_ble_eq_true rfl)) dX2_pay_68 ⟨Nat.le_of_ble_eq_true rfl, Nat.le_of_ble_eq_true rfl⟩) (fun r68 hw68 => ?_)
              rcases hw68 with ⟨rfl, h68⟩ | ⟨rfl, h68⟩
              · skip
                refine lv_if_ne (tgt := 96) hx hb dX2_pay_71 (by decide) (fun c71 => ?_) (fun c71 => absurd c71 (by decide))
                refine lv_iconst (v := 1) hx hb dX2_pay_96 (by decide) ?_
                refine lv_goto (tgt := 101) hx hb dX2_pay_97 (by decide) ?_
                refine lv_istore (lv' := [(4, .int 1), (0, .ref (ad 30)), (1, .int x), (2, .int y), (3, .int t)]) hx hb dX2_pay_101 hl (by decide) rfl (fun ls hl => ?_)
                refine lv_iload hx hb dX2_pay_103 (lv_at hl 0 rfl) ?_
                refine lv_if_eq (tgt := 110) hx hb dX2_pay_105 (by decide) (fun c105 => absurd c105 (by decide)) (fun c105 => ?_)
                refine lv_iconst (v := 2) hx hb dX2_pay_108 (by decide) ?_
                exact W.iret (v := 2) hx hb hr (fun t ht _ => ⟨⟨_, (0, pu), rfl, Or.inr ⟨rfl, a, b, d, ha, hb8, hd8, ea, eb, ed, Or.inl ⟨Or.inr (Or.inl ⟨h68.1, fun e => c60 ((fm_k (by decide) (by decide)).mp e)⟩), rfl, rfl⟩⟩, by rw [ht]; exact hP, hD⟩, hS.F ht⟩) hS.2.2 dX2_pay_109
              · skip
                have sb : (mV mk (Hg b)) = 6 := Classical.byContradiction (fun q => h68 ⟨q, rfl⟩)
                have nwb : ¬ (¬ (mV mk (Hg b)) = 6 ∧ ¬ fam (mV mk (Hg b)) = 3) := fun q => q.1 sb
                refine lv_if_ne (tgt := 96) hx hb dX2_pay_71 (by decide) (fun c71 => absurd c71 (by decide)) (fun c71 => ?_)
                refine lv_aload_n hx hb dX2_pay_74 rfl (lv_at hl 0 rfl) ?_
                refine lv_iload_n hx hb dX2_pay_75 rfl (lv_at hl 3 rfl) ?_
                refine lv_aload_n hx hb dX2_pay_76 rfl (lv_at hl 0 rfl) ?_
                refine lv_iload_n hx hb dX2_pay_77 rfl (lv_at hl 3 rfl) ?_
                refine vp_callSi (W.runV (As := [.int t]) (rest := [.int t, .ref (ad 30)]) ⟨hx, hb, hml, hown, hts⟩ (c_X2_makeOf l D ci ad z F 0 hd mk sz ce as np kd pu Hg Z t d hH hZ hd8 ed) (cwV 1 hts gX2_pay_X2_makeOf rfl rfl rfl (by decide +kernel) ⟨Nat.le_of_ble_eq_true rfl, Nat.le_of_ble_eq_true rfl⟩) ⟨WD.fb, (va_recv hK hP (ci := 2) (q0 := 0) rfl rfl), fun U hU hW => ⟨rfl, WD.call hP hD hK hE hS hU hW⟩⟩ rfl rfl hl.1 rfl (lv_room (Nat.le_of_ble_eq_true rfl)) dX2_pay_78 ⟨Nat.le_of_ble_eq_true rfl, Nat.le_of_ble_eq_true rfl⟩) (fun r78 hw78 => ?_)
                subst hw78
                refine lv_iconst (v := 4) hx hb dX2_pay_81 (by decide) ?_
                refine lv_icmp_ne (tgt := 89) hx hb dX2_pay_82 (by decide) (fun c82 => ?_) (fun c82 => ?_)
                · skip
                  refine lv_iconst (v := 0) hx hb dX2_pay_89 (by decide) ?_
                  refine vp_callSi (W.runV (As := [.int t, .int 0]) (rest := []) ⟨hx, hb, hml, hown, hts⟩ (c_X2_isWrong l D ci ad z F 0 hd mk sz ce as np kd pu Hg Z t 0 d hH hZ hd8 ed) (cwV 2 hts gX2_pay_X2_isWrong rfl rfl rfl (by decide +kernel) ⟨Nat.le_of_ble_eq_true rfl, Nat.le_of_ble_eq_true rfl⟩) ⟨WD.fb, (va_recv hK hP (ci := 2) (q0 := 0) rfl rfl), fun U hU hW => ⟨rfl, WD.call hP hD hK hE hS hU hW⟩⟩ rfl rfl hl.1 rfl (lv_room (Nat.le_of_ble_eq_true rfl)) dX2_pay_90 ⟨Nat.le_of_ble_eq_true rfl, Nat.le_of_ble_eq_true rfl⟩) (fun r90 hw90 => ?_)
                  rcases hw90 with ⟨rfl, h90⟩ | ⟨rfl, h90⟩
                  · skip
                    refine lv_if_eq (tgt := 100) hx hb dX2_pay_93 (by decide) (fun c93 => absurd c93 (by decide)) (fun c93 => ?_)
                    refine lv_iconst (v := 1) hx hb dX2_pay_96 (by decide) ?_
                    refine lv_goto (tgt := 101) hx hb dX2_pay_97 (by decide) ?_
                    refine lv_istore (lv' := [(4, .int 1), (0, .ref (ad 30)), (1, .int x), (2, .int y), (3, .int t)]) hx hb dX2_pay_101 hl (by decide) rfl (fun ls hl => ?_)
                    refine lv_iload hx hb dX2_pay_103 (lv_at hl 0 rfl) ?_
                    refine lv_if_eq (tgt := 110) hx hb dX2_pay_105 (by decide) (fun c105 => absurd c105 (by decide)) (fun c105 => ?_)
                    refine lv_iconst (v := 2) hx hb dX2_pay_108 (by decide) ?_
                    exact W.iret (v := 2) hx hb hr (fun t ht _ => ⟨⟨_, (0, pu), rfl, Or.inr ⟨rfl, a, b, d, ha, hb8, hd8, ea, eb, ed, Or.inl ⟨Or.inr (Or.inr ⟨h90.1, fun e => c82 ((fm_k (by decide) (by decide)).mp e)⟩), rfl, rfl⟩⟩, by rw [ht]; exact hP, hD⟩, hS.F ht⟩) hS.2.2 dX2_pay_109
                  · skip
                    have sd : (mV mk (Hg d)) = 6 := Classical.byContradiction (fun q => h90 ⟨q, rfl⟩)
                    have nwd : ¬ (¬ (mV mk (Hg d)) = 6 ∧ ¬ fam (mV mk (Hg d)) = 4) := fun q => q.1 sd
                    refine lv_if_eq (tgt := 100) hx hb dX2_pay_93 (by decide) (fun c93 => ?_) (fun c93 => absurd c93 (by decide))
                    refine lv_iconst (v := 0) hx hb dX2_pay_100 (by decide) ?_
                    refine lv_istore (lv' := [(4, .int 0), (0, .ref (ad 30)), (1, .int x), (2, .int y), (3, .int t)]) hx hb dX2_pay_101 hl (by decide) rfl (fun ls hl => ?_)
                    refine lv_iload hx hb dX2_pay_103 (lv_at hl 0 rfl) ?_
                    refine lv_if_eq (tgt := 110) hx hb dX2_pay_105 (by decide) (fun c105 => ?_) (fun c105 => absurd c105 (by decide))
                    refine lv_aload_n hx hb dX2_pay_110 rfl (lv_at hl 1 rfl) ?_
                    refine va_get (D := D) (ci := 2) (C := RX2) (T := TX2) (N := 9) hx hb hts hin2 hown hK hP 0 rfl rfl 1 (by decide) (hts (.fieldLink RX2 9 "DutyRotaModel" "held" "[I") (by decide +kernel)) (fun _ h9 => h9) rfl dX2_pay_111 ?_
                    refine lv_iload_n hx hb dX2_pay_114 rfl (lv_at hl 2 rfl) ?_
                    refine rw_ild hx hb hK hP 1 0 rfl rfl (j := a) (ea) (ha) (by decide) dX2_pay_115 ?_
                    refine lv_iconst (v := -1) hx hb dX2_pay_116 (by decide) ?_
                    refine lv_icmp_eq (tgt := 140) hx hb dX2_pay_117 (by decide) (fun c117 => ?_) (fun c117 => by exact absurd sa (hN6 (hd_t hH ha c117).1))
                    refine lv_iconst (v := 1) hx hb dX2_pay_140 (by decide) ?_
                    exact W.iret (v := 1) hx hb hr (fun t ht _ => ⟨⟨_, (0, pu), rfl, Or.inr ⟨rfl, a, b, d, ha, hb8, hd8, ea, eb, ed, Or.inr ⟨fun q => q.elim nwa (fun q => q.elim nwb nwd), Or.inl ⟨Or.inl sa, rfl, rfl⟩⟩⟩, by rw [ht]; exact hP, hD⟩, hS.F ht⟩) hS.2.2 dX2_pay_141
                · skip
                  refine lv_iconst (v := 1) hx hb dX2_pay_85 (by decide) ?_
                  refine lv_goto (tgt := 90) hx hb dX2_pay_86 (by decide) ?_
                  refine vp_callSi (W.runV (As := [.int t, .int 1]) (rest := []) ⟨hx, hb, hml, hown, hts⟩ (c_X2_isWrong l D ci ad z F 0 hd mk sz ce as np kd pu Hg Z t 1 d hH hZ hd8 ed) (cwV 2 hts gX2_pay_X2_isWrong rfl rfl rfl (by decide +kernel) ⟨Nat.le_of_ble_eq_true rfl, Nat.le_of_ble_eq_true rfl⟩) ⟨WD.fb, (va_recv hK hP (ci := 2) (q0 := 0) rfl rfl), fun U hU hW => ⟨rfl, WD.call hP hD hK hE hS hU hW⟩⟩ rfl rfl hl.1 rfl (lv_room (Nat.le_of_ble_eq_true rfl)) dX2_pay_90 ⟨Nat.le_of_ble_eq_true rfl, Nat.le_of_ble_eq_true rfl⟩) (fun r90 hw90 => ?_)
                  rcases hw90 with ⟨rfl, h90⟩ | ⟨rfl, h90⟩
                  · exact absurd h90.2 (by decide)
                  have nwd : ¬ (¬ (mV mk (Hg d)) = 6 ∧ ¬ fam (mV mk (Hg d)) = 4) := fun q => q.2 ((fm_k (by decide) (by decide)).mpr c82)
                  have okd : ¬ (mV mk (Hg d)) = 6 := fun e => absurd (e.symm.trans c82) (by decide)
                  refine lv_if_eq (tgt := 100) hx hb dX2_pay_93 (by decide) (fun c93 => ?_) (fun c93 => absurd c93 (by decide))
                  refine lv_iconst (v := 0) hx hb dX2_pay_100 (by decide) ?_
                  refine lv_istore (lv' := [(4, .int 0), (0, .ref (ad 30)), (1, .int x), (2, .int y), (3, .int t)]) hx hb dX2_pay_101 hl (by decide) rfl (fun ls hl => ?_)
                  refine lv_iload hx hb dX2_pay_103 (lv_at hl 0 rfl) ?_
                  refine lv_if_eq (tgt := 110) hx hb dX2_pay_105 (by decide) (fun c105 => ?_) (fun c105 => absurd c105 (by decide))
                  refine lv_aload_n hx hb dX2_pay_110 rfl (lv_at hl 1 rfl) ?_
                  refine va_get (D := D) (ci := 2) (C := RX2) (T := TX2) (N := 9) hx hb hts hin2 hown hK hP 0 rfl rfl 1 (by decide) (hts (.fieldLink RX2 9 "DutyRotaModel" "held" "[I") (by decide +kernel)) (fun _ h9 => h9) rfl dX2_pay_111 ?_
                  refine lv_iload_n hx hb dX2_pay_114 rfl (lv_at hl 2 rfl) ?_
                  refine rw_ild hx hb hK hP 1 0 rfl rfl (j := a) (ea) (ha) (by decide) dX2_pay_115 ?_
                  refine lv_iconst (v := -1) hx hb dX2_pay_116 (by decide) ?_
                  refine lv_icmp_eq (tgt := 140) hx hb dX2_pay_117 (by decide) (fun c117 => ?_) (fun c117 => by exact absurd sa (hN6 (hd_t hH ha c117).1))
                  refine lv_iconst (v := 1) hx hb dX2_pay_140 (by decide) ?_
                  exact W.iret (v := 1) hx hb hr (fun t ht _ => ⟨⟨_, (0, pu), rfl, Or.inr ⟨rfl, a, b, d, ha, hb8, hd8, ea, eb, ed, Or.inr ⟨fun q => q.elim nwa (fun q => q.elim nwb nwd), Or.inl ⟨Or.inl sa, rfl, rfl⟩⟩⟩, by rw [ht]; exact hP, hD⟩, hS.F ht⟩) hS.2.2 dX2_pay_141
            · skip
              refine lv_iconst (v := 1) hx hb dX2_pay_63 (by decide) ?_
              refine lv_goto (tgt := 68) hx hb dX2_pay_64 (by decide) ?_
              refine vp_callSi (W.runV (As := [.int y, .int 1]) (rest := []) ⟨hx, hb, hml, hown, hts⟩ (c_X2_isWrong l D ci ad z F 0 hd mk sz ce as np kd pu Hg Z y 1 b hH hZ hb8 eb) (cwV 2 hts gX2_pay_X2_isWrong rfl rfl rfl (by decide +kernel) ⟨Nat.le_of_ble_eq_true rfl, Nat.le_of_ble_eq_true rfl⟩) ⟨WD.fb, (va_recv hK hP (ci := 2) (q0 := 0) rfl rfl), fun U hU hW => ⟨rfl, WD.call hP hD hK hE hS hU hW⟩⟩ rfl rfl hl.1 rfl (lv_room (Nat.le_of_ble_eq_true rfl)) dX2_pay_68 ⟨Nat.le_of_ble_eq_true rfl, Nat.le_of_ble_eq_true rfl⟩) (fun r68 hw68 => ?_)
              rcases hw68 with ⟨rfl, h68⟩ | ⟨rfl, h68⟩
              · exact absurd h68.2 (by decide)
              have nwb : ¬ (¬ (mV mk (Hg b)) = 6 ∧ ¬ fam (mV mk (Hg b)) = 3) := fun q => q.2 ((fm_k (by decide) (by decide)).mpr c60)
              have okb : ¬ (mV mk (Hg b)) = 6 := fun e => absurd (e.symm.trans c60) (by decide)
              refine lv_if_ne (tgt := 96) hx hb dX2_pay_71 (by decide) (fun c71 => absurd c71 (by decide)) (fun c71 => ?_)
              refine lv_aload_n hx hb dX2_pay_74 rfl (lv_at hl 0 rfl) ?_
              refine lv_iload_n hx hb dX2_pay_75 rfl (lv_at hl 3 rfl) ?_
              refine lv_aload_n hx hb dX2_pay_76 rfl (lv_at hl 0 rfl) ?_
              refine lv_iload_n hx hb dX2_pay_77 rfl (lv_at hl 3 rfl) ?_
              refine vp_callSi (W.runV (As := [.int t]) (rest := [.int t, .ref (ad 30)]) ⟨hx, hb, hml, hown, hts⟩ (c_X2_makeOf l D ci ad z F 0 hd mk sz ce as np kd pu Hg Z t d hH hZ hd8 ed) (cwV 1 hts gX2_pay_X2_makeOf rfl rfl rfl (by decide +kernel) ⟨Nat.le_of_ble_eq_true rfl, Nat.le_of_ble_eq_true rfl⟩) ⟨WD.fb, (va_recv hK hP (ci := 2) (q0 := 0) rfl rfl), fun U hU hW => ⟨rfl, WD.call hP hD hK hE hS hU hW⟩⟩ rfl rfl hl.1 rfl (lv_room (Nat.le_of_ble_eq_true rfl)) dX2_pay_78 ⟨Nat.le_of_ble_eq_true rfl, Nat.le_of_ble_eq_true rfl⟩) (fun r78 hw78 => ?_)
              subst hw78
              refine lv_iconst (v := 4) hx hb dX2_pay_81 (by decide) ?_
              refine lv_icmp_ne (tgt := 89) hx hb dX2_pay_82 (by decide) (fun c82 => ?_) (fun c82 => ?_)
              · skip
                refine lv_iconst (v := 0) hx hb dX2_pay_89 (by decide) ?_
                refine vp_callSi (W.runV (As := [.int t, .int 0]) (rest := []) ⟨hx, hb, hml, hown, hts⟩ (c_X2_isWrong l D ci ad z F 0 hd mk sz ce as np kd pu Hg Z t 0 d hH hZ hd8 ed) (cwV 2 hts gX2_pay_X2_isWrong rfl rfl rfl (by decide +kernel) ⟨Nat.le_of_ble_eq_true rfl, Nat.le_of_ble_eq_true rfl⟩) ⟨WD.fb, (va_recv hK hP (ci := 2) (q0 := 0) rfl rfl), fun U hU hW => ⟨rfl, WD.call hP hD hK hE hS hU hW⟩⟩ rfl rfl hl.1 rfl (lv_room (Nat.le_of_ble_eq_true rfl)) dX2_pay_90 ⟨Nat.le_of_ble_eq_true rfl, Nat.le_of_ble_eq_true rfl⟩) (fun r90 hw90 => ?_)
                rcases hw90 with ⟨rfl, h90⟩ | ⟨rfl, h90⟩
                · skip
                  refine lv_if_eq (tgt := 100) hx hb dX2_pay_93 (by decide) (fun c93 => absurd c93 (by decide)) (fun c93 => ?_)
                  refine lv_iconst (v := 1) hx hb dX2_pay_96 (by decide) ?_
                  refine lv_goto (tgt := 101) hx hb dX2_pay_97 (by decide) ?_
                  refine lv_istore (lv' := [(4, .int 1), (0, .ref (ad 30)), (1, .int x), (2, .int y), (3, .int t)]) hx hb dX2_pay_101 hl (by decide) rfl (fun ls hl => ?_)
                  refine lv_iload hx hb dX2_pay_103 (lv_at hl 0 rfl) ?_
                  refine lv_if_eq (tgt := 110) hx hb dX2_pay_105 (by decide) (fun c105 => absurd c105 (by decide)) (fun c105 => ?_)
                  refine lv_iconst (v := 2) hx hb dX2_pay_108 (by decide) ?_
                  exact W.iret (v := 2) hx hb hr (fun t ht _ => ⟨⟨_, (0, pu), rfl, Or.inr ⟨rfl, a, b, d, ha, hb8, hd8, ea, eb, ed, Or.inl ⟨Or.inr (Or.inr ⟨h90.1, fun e => c82 ((fm_k (by decide) (by decide)).mp e)⟩), rfl, rfl⟩⟩, by rw [ht]; exact hP, hD⟩, hS.F ht⟩) hS.2.2 dX2_pay_109
                · skip
                  have sd : (mV mk (Hg d)) = 6 := Classical.byContradiction (fun q => h90 ⟨q, rfl⟩)
                  have nwd : ¬ (¬ (mV mk (Hg d)) = 6 ∧ ¬ fam (mV mk (Hg d)) = 4) := fun q => q.1 sd
                  refine lv_if_eq (tgt := 100) hx hb dX2_pay_93 (by decide) (fun c93 => ?_) (fun c93 => absurd c93 (by decide))
                  refine lv_iconst (v := 0) hx hb dX2_pay_100 (by decide) ?_
                  refine lv_istore (lv' := [(4, .int 0), (0, .ref (ad 30)), (1, .int x), (2, .int y), (3, .int t)]) hx hb dX2_pay_101 hl (by decide) rfl (fun ls hl => ?_)
                  refine lv_iload hx hb dX2_pay_103 (lv_at hl 0 rfl) ?_
                  refine lv_if_eq (tgt := 110) hx hb dX2_pay_105 (by decide) (fun c105 => ?_) (fun c105 => absurd c105 (by decide))
                  refine lv_aload_n hx hb dX2_pay_110 rfl (lv_at hl 1 rfl) ?_
                  refine va_get (D := D) (ci := 2) (C := RX2) (T := TX2) (N := 9) hx hb hts hin2 hown hK hP 0 rfl rfl 1 (by decide) (hts (.fieldLink RX2 9 "DutyRotaModel" "held" "[I") (by decide +kernel)) (fun _ h9 => h9) rfl dX2_pay_111 ?_
                  refine lv_iload_n hx hb dX2_pay_114 rfl (lv_at hl 2 rfl) ?_
                  refine rw_ild hx hb hK hP 1 0 rfl rfl (j := a) (ea) (ha) (by decide) dX2_pay_115 ?_
                  refine lv_iconst (v := -1) hx hb dX2_pay_116 (by decide) ?_
                  refine lv_icmp_eq (tgt := 140) hx hb dX2_pay_117 (by decide) (fun c117 => ?_) (fun c117 => by exact absurd sa (hN6 (hd_t hH ha c117).1))
                  refine lv_iconst (v := 1) hx hb dX2_pay_140 (by decide) ?_
                  exact W.iret (v := 1) hx hb hr (fun t ht _ => ⟨⟨_, (0, pu), rfl, Or.inr ⟨rfl, a, b, d, ha, hb8, hd8, ea, eb, ed, Or.inr ⟨fun q => q.elim nwa (fun q => q.elim nwb nwd), Or.inl ⟨Or.inl sa, rfl, rfl⟩⟩⟩, by rw [ht]; exact hP, hD⟩, hS.F ht⟩) hS.2.2 dX2_pay_141
              · skip
                refine lv_iconst (v := 1) hx hb dX2_pay_85 (by decide) ?_
                refine lv_goto (tgt := 90) hx hb dX2_pay_86 (by decide) ?_
                refine vp_callSi (W.runV (As := [.int t, .int 1]) (rest := []) ⟨hx, hb, hml, hown, hts⟩ (c_X2_isWrong l D ci ad z F 0 hd mk sz ce as np kd pu Hg Z t 1 d hH hZ hd8 ed) (cwV 2 hts gX2_pay_X2_isWrong rfl rfl rfl (by decide +kernel) ⟨Nat.le_of_ble_eq_true rfl, Nat.le_of_ble_eq_true rfl⟩) ⟨WD.fb, (va_recv hK hP (ci := 2) (q0 := 0) rfl rfl), fun U hU hW => ⟨rfl, WD.call hP hD hK hE hS hU hW⟩⟩ rfl rfl hl.1 rfl (lv_room (Nat.le_of_ble_eq_true rfl)) dX2_pay_90 ⟨Nat.le_of_ble_eq_true rfl, Nat.le_of_ble_eq_true rfl⟩) (fun r90 hw90 => ?_)
                rcases hw90 with ⟨rfl, h90⟩ | ⟨rfl, h90⟩
                · exact absurd h90.2 (by decide)
                have nwd : ¬ (¬ (mV mk (Hg d)) = 6 ∧ ¬ fam (mV mk (Hg d)) = 4) := fun q => q.2 ((fm_k (by decide) (by decide)).mpr c82)
                have okd : ¬ (mV mk (Hg d)) = 6 := fun e => absurd (e.symm.trans c82) (by decide)
                refine lv_if_eq (tgt := 100) hx hb dX2_pay_93 (by decide) (fun c93 => ?_) (fun c93 => absurd c93 (by decide))
                refine lv_iconst (v := 0) hx hb dX2_pay_100 (by decide) ?_
                refine lv_istore (lv' := [(4, .int 0), (0, .ref (ad 30)), (1, .int x), (2, .int y), (3, .int t)]) hx hb dX2_pay_101 hl (by decide) rfl (fun ls hl => ?_)
                refine lv_iload hx hb dX2_pay_103 (lv_at hl 0 rfl) ?_
                refine lv_if_eq (tgt := 110) hx hb dX2_pay_105 (by decide) (fun c105 => ?_) (fun c105 => absurd c105 (by decide))
                refine lv_aload_n hx hb dX2_pay_110 rfl (lv_at hl 1 rfl) ?_
                refine va_get (D := D) (ci := 2) (C := RX2) (T := TX2) (N := 9) hx hb hts hin2 hown hK hP 0 rfl rfl 1 (by decide) (hts (.fieldLink RX2 9 "DutyRotaModel" "held" "[I") (by decide +kernel)) (fun _ h9 => h9) rfl dX2_pay_111 ?_
                refine lv_iload_n hx hb dX2_pay_114 rfl (lv_at hl 2 rfl) ?_
                refine rw_ild hx hb hK hP 1 0 rfl rfl (j := a) (ea) (ha) (by decide) dX2_pay_115 ?_
                refine lv_iconst (v := -1) hx hb dX2_pay_116 (by decide) ?_
                refine lv_icmp_eq (tgt := 140) hx hb dX2_pay_117 (by decide) (fun c117 => ?_) (fun c117 => by exact absurd sa (hN6 (hd_t hH ha c117).1))
                refine lv_iconst (v := 1) hx hb dX2_pay_140 (by decide) ?_
                exact W.iret (v := 1) hx hb hr (fun t ht _ => ⟨⟨_, (0, pu), rfl, Or.inr ⟨rfl, a, b, d, ha, hb8, hd8, ea, eb, ed, Or.inr ⟨fun q => q.elim nwa (fun q => q.elim nwb nwd), Or.inl ⟨Or.inl sa, rfl, rfl⟩⟩⟩, by rw [ht]; exact hP, hD⟩, hS.F ht⟩) hS.2.2 dX2_pay_141
