set_option maxHeartbeats 4000000 in
set_option maxRecDepth 100000 in
theorem c_X2_stands (l : Launch) (D : va_G) (ci : Nat → ClassId) (ad : Nat → Nat) (z : Nat) (F : va_W) (th : Int32) (hd : Nat → Int32) (mk : Nat → Int32) (sz : Nat → Int32) (ce : Nat → Int64) (as : Nat → Int64) (np : Nat) (kd : Nat → Int32) (pu : Nat → Int64) (Hg Z : Nat → Nat) (x : Int32) (hH : hOK hd Hg) (hZ : zOK sz Z) : Met l yX2_stands wsX2_stands ({ frames := 1, cells := 0, slots := 0, locals := 20 }) (va_Pc [.ref (ad 30), .int x] (fun U => WD D ci ad z (wM ci ad th hd mk sz ce as np kd pu ++ F) U)) (vp_Si (fun r => r = standN Hg mk Z ce x.toInt64 9)) 0 0 (fun _ => False) := by
  refine Met.ofW (cc := cX2_stands) (maxL := 6) (ret := (some .int)) (by decide) rfl ?_
  intro p e s m args below meth c s₁ B hml hv
  obtain ⟨rfl, hP, hD, hK, hE⟩ := hv
  have hx := B.exec
  have hb := B.bytes
  have hr := B.returns
  have hts := atoms_spec (ws := wsX2_stands) B.pre
  have hown : s.vm.findClass RX2 = some m.cls := findClass_of_methodNamed B.named
  have hlocks := B.notSynchronized
  have hS : va_S (LA z) s.heap s.heap [] := va_S.rf
  have hin2 : ∀ w ∈ wsX20, w ∈ wsX2_stands := by decide +kernel
  have hl := lv_entry ([.ref (ad 30), .int x]) (n := 6) (Nat.le_of_ble_eq_true rfl)
  rw [lg_entry_eq]
  generalize (lg_sl ([.ref (ad 30), .int x]) ++ List.replicate (6 - (lg_sl ([.ref (ad 30), .int x])).length) Slot.unset).toArray = ls at hl ⊢
  have hl : lv_has ls 6 [(0, .ref (ad 30)), (1, .int x)] := hl
  refine lv_iconst (v := 0) hx hb dX2_stands_0 (by decide) ?_
  refine lv_istore_n (lv' := [(2, .int 0), (0, .ref (ad 30)), (1, .int x)]) hx hb dX2_stands_1 rfl hl (by decide) rfl (fun ls hl => ?_)
  refine lv_iconst (v := 0) hx hb dX2_stands_2 (by decide) ?_
  refine lv_istore_n (lv' := [(3, .int 0), (2, .int 0), (0, .ref (ad 30)), (1, .int x)]) hx hb dX2_stands_3 rfl hl (by decide) rfl (fun ls hl => ?_)
  have loop4 : ∀ (d4 : Nat) (t : Nat) (c1 : Int32) (hd4 : 9 + 1 ≤ t + d4) (ht : t ≤ 9) (hc1 : c1 = standN Hg mk Z ce x.toInt64 t) (ls : Array Slot) (hl : lv_has ls 6 [(3, .int (nI t)), (2, .int c1), (0, .ref (ad 30)), (1, .int x)]), W p l e ({ frames := 1, cells := 0, slots := 0, locals := 20 } : Room) s m ([.ref (ad 30), .int x] : List Value).toArray below meth c s.heap [] 0 0 (MQ below (vp_Si (fun r => r = standN Hg mk Z ce x.toInt64 9)) ([.ref (ad 30), .int x] : List Value).toArray s 0 0 (fun _ => False)) (F0 m 4 ls []) := by
    intro d4
    induction d4 with
    | zero => intro t c1 hd4 ht hc1 ls hl; exact absurd hd4 (by omega)
    | succ d4 ih4 =>
      intro t c1 hd4 ht hc1 ls hl
      refine lv_iload_n hx hb dX2_stands_4 rfl (lv_at hl 0 rfl) ?_
      refine lv_bipush (v := 9) hx hb dX2_stands_5 (by decide) ?_
      refine lv_icmp_ge (tgt := 121) hx hb dX2_stands_7 (by decide) (fun c7 => ?_) (fun c7 => ?_)
      · skip
        have ht9 : t = 9 := by have := nI_ge_of (a := t) (b := 9) c7 (by omega) (by omega); omega
        refine lv_iload_n hx hb dX2_stands_121 rfl (lv_at hl 1 rfl) ?_
        exact W.iret (v := c1) hx hb hr (fun t ht _ => ⟨_, rfl, by rw [hc1, ht9], ht⟩) (fun _ h => nomatch h) dX2_stands_122
      · skip
        have ht9 : t < 9 := nI_lt_of (a := t) (b := 9) c7 (by omega) (by omega)
        have hZ40 := (hZ t ht9).2
        refine lv_iconst (v := 0) hx hb dX2_stands_10 (by decide) ?_
        refine lv_istore (lv' := [(4, .int 0), (3, .int (nI t)), (2, .int c1), (0, .ref (ad 30)), (1, .int x)]) hx hb dX2_stands_11 hl (by decide) rfl (fun ls hl => ?_)
        refine lv_iconst (v := 0) hx hb dX2_stands_13 (by decide) ?_
        refine lv_istore (lv' := [(5, .int 0), (4, .int 0), (3, .int (nI t)), (2, .int c1), (0, .ref (ad 30)), (1, .int x)]) hx hb dX2_stands_14 hl (by decide) rfl (fun ls hl => ?_)
        have loop16 : ∀ (d16 : Nat) (q : Nat) (b1 : Int32) (hd16 : 8 + 1 ≤ q + d16) (hq : q ≤ 8) (hb1 : (b1 = 1 ∧ ∃ h, h < 8 ∧ Hg h = t) ∨ (b1 = 0 ∧ ∀ h', h' < q → ¬ Hg h' = t)) (ls : Array Slot) (hl : lv_has ls 6 [(5, .int (nI q)), (4, .int b1), (3, .int (nI t)), (2, .int c1), (0, .ref (ad 30)), (1, .int x)]), W p l e ({ frames := 1, cells := 0, slots := 0, locals := 20 } : Room) s m ([.ref (ad 30), .int x] : List Value).toArray below meth c s.heap [] 0 0 (MQ below (vp_Si (fun r => r = standN Hg mk Z ce x.toInt64 9)) ([.ref (ad 30), .int x] : List Value).toArray s 0 0 (fun _ => False)) (F0 m 16 ls []) := by
          intro d16
          induction d16 with
          | zero => intro q b1 hd16 hq hb1 ls hl; exact absurd hd16 (by omega)
          | succ d16 ih16 =>
            intro q b1 hd16 hq hb1 ls hl
            refine lv_iload hx hb dX2_stands_16 (lv_at hl 0 rfl) ?_
            refine lv_bipush (v := 8) hx hb dX2_stands_18 (by decide) ?_
            refine lv_icmp_ge (tgt := 52) hx hb dX2_stands_20 (by decide) (fun c20 => ?_) (fun c20 => ?_)
            · skip
              have hq8 : q = 8 := by have := nI_ge_of (a := q) (b := 8) c20 (by omega) (by omega); omega
              refine lv_iconst (v := 0) hx hb dX2_stands_52 (by decide) ?_
              refine lv_istore (lv' := [(5, .int 0), (4, .int b1), (3, .int (nI t)), (2, .int c1), (0, .ref (ad 30)), (1, .int x)]) hx hb dX2_stands_53 hl (by decide) rfl (fun ls hl => ?_)
              have loop55 : ∀ (d55 : Nat) (g : Nat) (c2 : Int32) (hd55 : Z t + 1 ≤ g + d55) (hg : g ≤ Z t) (hst1 : stQ Hg mk Z ce x.toInt64 t g c2) (ls : Array Slot) (hl : lv_has ls 6 [(5, .int (nI g)), (4, .int b1), (3, .int (nI t)), (2, .int c2), (0, .ref (ad 30)), (1, .int x)]), W p l e ({ frames := 1, cells := 0, slots := 0, locals := 20 } : Room) s m ([.ref (ad 30), .int x] : List Value).toArray below meth c s.heap [] 0 0 (MQ below (vp_Si (fun r => r = standN Hg mk Z ce x.toInt64 9)) ([.ref (ad 30), .int x] : List Value).toArray s 0 0 (fun _ => False)) (F0 m 55 ls []) := by
                intro d55
                induction d55 with
                | zero => intro g c2 hd55 hg hst1 ls hl; exact absurd hd55 (by omega)
                | succ d55 ih55 =>
                  intro g c2 hd55 hg hst1 ls hl
                  refine lv_iload hx hb dX2_stands_55 (lv_at hl 0 rfl) ?_
                  refine lv_aload_n hx hb dX2_stands_57 rfl (lv_at hl 4 rfl) ?_
                  refine va_get (D := D) (ci := 2) (C := RX2) (T := TX2) (N := 9) hx hb hts hin2 hown hK hP 0 rfl rfl 3 (by decide) (hts (.fieldLink RX2 16 "DutyRotaModel" "sizes" "[I") (by decide +kernel)) (fun _ h9 => h9) rfl dX2_stands_58 ?_
                  refine lv_iload_n hx hb dX2_stands_61 rfl (lv_at hl 2 rfl) ?_
                  refine rw_ild hx hb hK hP 3 0 rfl rfl (j := t) (rfl) (by omega) (by decide) dX2_stands_62 ?_
                  refine rw_topi (y := (nI (Z t))) ((hZ t ht9).1) ?_
                  refine lv_icmp_ge (tgt := 115) hx hb dX2_stands_63 (by decide) (fun c63 => ?_) (fun c63 => ?_)
                  · skip
                    have hg9 : g = Z t := by have := nI_ge_of c63 (by omega) (by omega); omega
                    refine lv_iinc (v := (nI (t + 1))) (lv' := [(3, .int (nI (t + 1))), (5, .int (nI g)), (4, .int b1), (2, .int c2), (0, .ref (ad 30)), (1, .int x)]) hx hb dX2_stands_115 hl (k := 2) rfl (nI_1 _) (by decide) rfl (fun ls hl => ?_)
                    refine lv_goto (tgt := 4) hx hb dX2_stands_118 (by decide) ?_
                    exact ih4 (t + 1) c2 (by omega) (by omega) (stQ_e hst1 (Or.inl hg9)) ls (lv_sub hl [0, 3, 4, 5] rfl)
                  · skip
                    have hg9 : g < Z t := nI_lt_of c63 (by omega) (by omega)
                    refine lv_iload hx hb dX2_stands_66 (lv_at hl 1 rfl) ?_
                    refine lv_if_eq (tgt := 115) hx hb dX2_stands_68 (by decide) (fun c68 => ?_) (fun c68 => ?_)
                    · skip
                      refine lv_iinc (v := (nI (t + 1))) (lv' := [(3, .int (nI (t + 1))), (5, .int (nI g)), (4, .int b1), (2, .int c2), (0, .ref (ad 30)), (1, .int x)]) hx hb dX2_stands_115 hl (k := 2) rfl (nI_1 _) (by decide) rfl (fun ls hl => ?_)
                      refine lv_goto (tgt := 4) hx hb dX2_stands_118 (by decide) ?_
                      exact ih4 (t + 1) c2 (by omega) (by omega) (stQ_e hst1 (Or.inr (fun h => by obtain ⟨⟨k, h1, h2⟩, -⟩ := h; exact hb1.elim (fun q => absurd (q.1.symm.trans c68) (by decide)) (fun q => q.2 k (by omega) h2)))) ls (lv_sub hl [0, 3, 4, 5] rfl)
                    · skip
                      refine lv_aload_n hx hb dX2_stands_71 rfl (lv_at hl 4 rfl) ?_
                      refine va_get (D := D) (ci := 2) (C := RX2) (T := TX2) (N := 9) hx hb hts hin2 hown hK hP 0 rfl rfl 2 (by decide) (hts (.fieldLink RX2 13 "DutyRotaModel" "makes" "[I") (by decide +kernel)) (fun _ h9 => h9) rfl dX2_stands_72 ?_
                      refine lv_iload_n hx hb dX2_stands_75 rfl (lv_at hl 2 rfl) ?_
                      refine rw_ild hx hb hK hP 2 0 rfl rfl (j := t) (rfl) (by omega) (by decide) dX2_stands_76 ?_
                      refine vp_callSi (W.runS (As := [.int (mk t)]) (rest := []) ⟨hx, hb, hml, hown, hts⟩ (c_X2_isRoster l (mk t) ) (va_cwS 1 hts gX2_stands_X2_isRoster rfl rfl rfl (by decide +kernel) ⟨Nat.le_of_ble_eq_true rfl, Nat.le_of_ble_eq_true rfl⟩) ⟨fb0, fun U hU hW => ⟨rfl, trivial⟩⟩ rfl rfl hl.1 rfl (lv_room (Nat.le_of_ble_eq_true rfl)) dX2_stands_77 ⟨Nat.le_of_ble_eq_true rfl, Nat.le_of_ble_eq_true rfl⟩) (fun r77 hw77 => ?_)
                      rcases hw77 with ⟨rfl, h77⟩ | ⟨rfl, h77⟩
                      · skip
                        refine lv_if_eq (tgt := 115) hx hb dX2_stands_80 (by decide) (fun c80 => absurd c80 (by decide)) (fun c80 => ?_)
                        refine lv_iload_n hx hb dX2_stands_83 rfl (lv_at hl 3 rfl) ?_
                        refine lv_aload_n hx hb dX2_stands_84 rfl (lv_at hl 4 rfl) ?_
                        refine va_get (D := D) (ci := 2) (C := RX2) (T := TX2) (N := 9) hx hb hts hin2 hown hK hP 0 rfl rfl 4 (by decide) (hts (.fieldLink RX2 19 "DutyRotaModel" "cells" "[J") (by decide +kernel)) (fun _ h9 => h9) rfl dX2_stands_85 ?_
                        refine lv_bipush (v := 40) hx hb dX2_stands_88 (by decide) ?_
                        refine lv_iload_n hx hb dX2_stands_90 rfl (lv_at hl 2 rfl) ?_
                        refine lv_imul hx hb dX2_stands_91 ?_
                        refine rw_topi (y := (nI (40 * t))) (ix40' _) ?_
                        refine lv_iload hx hb dX2_stands_92 (lv_at hl 0 rfl) ?_
                        refine lv_iadd hx hb dX2_stands_94 ?_
                        refine rw_topi (y := (nI (40 * t + g))) (nI_add _ _) ?_
                        refine rw_lld hx hb hK hP 4 1 rfl rfl (j := (40 * t + g)) (rfl) (by omega) (by decide) dX2_stands_95 ?_
                        refine lv_iload_n hx hb dX2_stands_96 rfl (lv_at hl 5 rfl) ?_
                        refine lv_i2l hx hb dX2_stands_97 rfl ?_
                        refine lv_lcmp3 hx hb dX2_stands_98 (fun x_1 ex_1 => ?_)
                        refine lv_if_ne (tgt := 106) hx hb dX2_stands_99 (by decide) (fun c99 => ?_) (fun c99 => ?_)
                        · skip
                          refine lv_iconst (v := 0) hx hb dX2_stands_106 (by decide) ?_
                          refine lv_iadd hx hb dX2_stands_107 ?_
                          refine lv_istore_n (lv' := [(2, .int (c2 + 0)), (5, .int (nI g)), (4, .int b1), (3, .int (nI t)), (0, .ref (ad 30)), (1, .int x)]) hx hb dX2_stands_108 rfl hl (by decide) rfl (fun ls hl => ?_)
                          refine lv_iinc (v := (nI (g + 1))) (lv' := [(5, .int (nI (g + 1))), (2, .int (c2 + 0)), (4, .int b1), (3, .int (nI t)), (0, .ref (ad 30)), (1, .int x)]) hx hb dX2_stands_109 hl (k := 1) rfl (nI_1 _) (by decide) rfl (fun ls hl => ?_)
                          refine lv_goto (tgt := 55) hx hb dX2_stands_112 (by decide) ?_
                          exact ih55 (g + 1) (c2 + 0) (by omega) (by omega) (stQ_s hst1 (hb1.elim (fun q => q.2) (fun q => absurd q.1 c68)) h77 ((if_neg (lc_ne ex_1 c99)).symm)) ls (lv_sub hl [0, 2, 3, 1, 4, 5] rfl)
                        · skip
                          refine lv_iconst (v := 1) hx hb dX2_stands_102 (by decide) ?_
                          refine lv_goto (tgt := 107) hx hb dX2_stands_103 (by decide) ?_
                          refine lv_iadd hx hb dX2_stands_107 ?_
                          refine lv_istore_n (lv' := [(2, .int (c2 + 1)), (5, .int (nI g)), (4, .int b1), (3, .int (nI t)), (0, .ref (ad 30)), (1, .int x)]) hx hb dX2_stands_108 rfl hl (by decide) rfl (fun ls hl => ?_)
                          refine lv_iinc (v := (nI (g + 1))) (lv' := [(5, .int (nI (g + 1))), (2, .int (c2 + 1)), (4, .int b1), (3, .int (nI t)), (0, .ref (ad 30)), (1, .int x)]) hx hb dX2_stands_109 hl (k := 1) rfl (nI_1 _) (by decide) rfl (fun ls hl => ?_)
                          refine lv_goto (tgt := 55) hx hb dX2_stands_112 (by decide) ?_
                          exact ih55 (g + 1) (c2 + 1) (by omega) (by omega) (stQ_s hst1 (hb1.elim (fun q => q.2) (fun q => absurd q.1 c68)) h77 ((if_pos (lc_eq ex_1 c99)).symm)) ls (lv_sub hl [0, 2, 3, 1, 4, 5] rfl)
                      · skip
                        refine lv_if_eq (tgt := 115) hx hb dX2_stands_80 (by decide) (fun c80 => ?_) (fun c80 => absurd c80 (by decide))
                        refine lv_iinc (v := (nI (t + 1))) (lv' := [(3, .int (nI (t + 1))), (5, .int (nI g)), (4, .int b1), (2, .int c2), (0, .ref (ad 30)), (1, .int x)]) hx hb dX2_stands_115 hl (k := 2) rfl (nI_1 _) (by decide) rfl (fun ls hl => ?_)
                        refine lv_goto (tgt := 4) hx hb dX2_stands_118 (by decide) ?_
                        exact ih4 (t + 1) c2 (by omega) (by omega) (stQ_e hst1 (Or.inr (fun h => h77 h.2))) ls (lv_sub hl [0, 3, 4, 5] rfl)
              exact loop55 (Z t + 1) 0 c1 (by omega) (by omega) (Or.inl ⟨rfl, hc1⟩) ls (lv_sub hl [0, 1, 2, 3, 4, 5] rfl)
            · skip
              have hq8 : q < 8 := nI_lt_of (a := q) (b := 8) c20 (by omega) (by omega)
              refine lv_iload hx hb dX2_stands_23 (lv_at hl 1 rfl) ?_
              refine lv_if_ne (tgt := 39) hx hb dX2_stands_25 (by decide) (fun c25 => ?_) (fun c25 => ?_)
              · skip
                refine lv_iconst (v := 1) hx hb dX2_stands_39 (by decide) ?_
                refine lv_goto (tgt := 44) hx hb dX2_stands_40 (by decide) ?_
                refine lv_istore (lv' := [(4, .int 1), (5, .int (nI q)), (3, .int (nI t)), (2, .int c1), (0, .ref (ad 30)), (1, .int x)]) hx hb dX2_stands_44 hl (by decide) rfl (fun ls hl => ?_)
                refine lv_iinc (v := (nI (q + 1))) (lv' := [(5, .int (nI (q + 1))), (4, .int 1), (3, .int (nI t)), (2, .int c1), (0, .ref (ad 30)), (1, .int x)]) hx hb dX2_stands_46 hl (k := 1) rfl (nI_1 _) (by decide) rfl (fun ls hl => ?_)
                refine lv_goto (tgt := 16) hx hb dX2_stands_49 (by decide) ?_
                exact ih16 (q + 1) 1 (by omega) (by omega) (Or.inl ⟨rfl, hb1.elim (fun q => q.2) (fun q => absurd q.1 c25)⟩) ls (lv_sub hl [0, 1, 2, 3, 4, 5] rfl)
              · skip
                refine lv_aload_n hx hb dX2_stands_28 rfl (lv_at hl 4 rfl) ?_
                refine va_get (D := D) (ci := 2) (C := RX2) (T := TX2) (N := 9) hx hb hts hin2 hown hK hP 0 rfl rfl 1 (by decide) (hts (.fieldLink RX2 9 "DutyRotaModel" "held" "[I") (by decide +kernel)) (fun _ h9 => h9) rfl dX2_stands_29 ?_
                refine lv_iload hx hb dX2_stands_32 (lv_at hl 0 rfl) ?_
                refine rw_ild hx hb hK hP 1 0 rfl rfl (j := q) (rfl) (by omega) (by decide) dX2_stands_34 ?_
                refine lv_iload_n hx hb dX2_stands_35 rfl (lv_at hl 2 rfl) ?_
                refine lv_icmp_ne (tgt := 43) hx hb dX2_stands_36 (by decide) (fun c36 => ?_) (fun c36 => ?_)
                · skip
                  refine lv_iconst (v := 0) hx hb dX2_stands_43 (by decide) ?_
                  refine lv_istore (lv' := [(4, .int 0), (5, .int (nI q)), (3, .int (nI t)), (2, .int c1), (0, .ref (ad 30)), (1, .int x)]) hx hb dX2_stands_44 hl (by decide) rfl (fun ls hl => ?_)
                  refine lv_iinc (v := (nI (q + 1))) (lv' := [(5, .int (nI (q + 1))), (4, .int 0), (3, .int (nI t)), (2, .int c1), (0, .ref (ad 30)), (1, .int x)]) hx hb dX2_stands_46 hl (k := 1) rfl (nI_1 _) (by decide) rfl (fun ls hl => ?_)
                  refine lv_goto (tgt := 16) hx hb dX2_stands_49 (by decide) ?_
                  exact ih16 (q + 1) 0 (by omega) (by omega) (Or.inr ⟨rfl, lt_s (hb1.elim (fun q => absurd (q.1.symm.trans c25) (by decide)) (fun q => q.2)) (fun e => c36 ((hd_is hH hq8 ht9).mpr e))⟩) ls (lv_sub hl [0, 1, 2, 3, 4, 5] rfl)
                · skip
                  refine lv_iconst (v := 1) hx hb dX2_stands_39 (by decide) ?_
                  refine lv_goto (tgt := 44) hx hb dX2_stands_40 (by decide) ?_
                  refine lv_istore (lv' := [(4, .int 1), (5, .int (nI q)), (3, .int (nI t)), (2, .int c1), (0, .ref (ad 30)), (1, .int x)]) hx hb dX2_stands_44 hl (by decide) rfl (fun ls hl => ?_)
                  refine lv_iinc (v := (nI (q + 1))) (lv' := [(5, .int (nI (q + 1))), (4, .int 1), (3, .int (nI t)), (2, .int c1), (0, .ref (ad 30)), (1, .int x)]) hx hb dX2_stands_46 hl (k := 1) rfl (nI_1 _) (by decide) rfl (fun ls hl => ?_)
                  refine lv_goto (tgt := 16) hx hb dX2_stands_49 (by decide) ?_
                  exact ih16 (q + 1) 1 (by omega) (by omega) (Or.inl ⟨rfl, q, hq8, (hd_is hH hq8 ht9).mp c36⟩) ls (lv_sub hl [0, 1, 2, 3, 4, 5] rfl)
        exact loop16 (8 + 1) 0 0 (by omega) (by omega) (Or.inr ⟨rfl, fun h' h => absurd h (by omega)⟩) ls (lv_sub hl [0, 1, 2, 3, 4, 5] rfl)
  exact loop4 (9 + 1) 0 0 (by omega) (by omega) (rfl) ls (lv_sub hl [0, 1, 2, 3] rfl)
set_option maxHeartbeats 4000000 in
set_option maxRecDepth 100000 in
theorem c_X2_person (l : Launch) (D : va_G) (ci : Nat → ClassId) (ad : Nat → Nat) (z : Nat) (F : va_W) (th : Int32) (hd : Nat → Int32) (mk : Nat → Int32) (sz : Nat → Int32) (ce : Nat → Int64) (as : Nat → Int64) (np : Nat) (kd : Nat → Int32) (pu : Nat → Int64) (Hg Z : Nat → Nat) (x w : Int32) (hH : hOK hd Hg) (hZ : zOK sz Z) (hN : np ≤ 60) (hMK : ∀ t, t < 9 → ¬ mk t < 0) (hRO : ∀ h, h < 8 → mV mk (Hg h) ≤ 2 → ∀ q, q < sV mk Z (Hg h) → okV np (rV ce (Hg h) q)) : Met l yX2_person wsX2_person ({ frames := 2, cells := 0, slots := 0, locals := 45 }) (va_Pc [.ref (ad 30), .int x, .int w] (fun U => WD D ci ad z (wM ci ad th hd mk sz ce as np kd pu ++ F) U)) (va_Ql (fun (r : Int64) (u : Int32) => (u = 1 ∧ (x < 0 ∨ nI np ≤ x)) ∨ (u = 0 ∧ ∃ k, k < np ∧ x = nI k ∧ ((w = 0 ∧ r = (kd k).toInt64) ∨ (w = 1 ∧ r = pu k) ∨ (w = 2 ∧ r = (standN Hg mk Z ce (lN k) 9).toInt64) ∨ (¬ w = 0 ∧ ¬ w = 1 ∧ ¬ w = 2 ∧ r = -1)))) (fun u t => va_P D vwCl (wM ci ad u hd mk sz ce as np kd pu ++ F) t.heap ∧ va_D (LA z) (wM ci ad u hd mk sz ce as np kd pu ++ F)) (LA z)) 0 0 (LA z) := by
  refine Met.ofW (cc := cX2_person) (maxL := 3) (ret := (some .long)) (by decide) rfl ?_
  intro p e s m args below meth c s₁ B hml hv
  obtain ⟨rfl, hP, hD, hK, hE⟩ := hv
  have hx := B.exec
  have hb := B.bytes
  have hr := B.returns
  have hts := atoms_spec (ws := wsX2_person) B.pre
  have hown : s.vm.findClass RX2 = some m.cls := findClass_of_methodNamed B.named
  have hlocks := B.notSynchronized
  have hS : va_S (LA z) s.heap s.heap [] := va_S.rf
  have hin2 : ∀ w ∈ wsX20, w ∈ wsX2_person := by decide +kernel
  have hl := lv_entry ([.ref (ad 30), .int x, .int w]) (n := 3) (Nat.le_of_ble_eq_true rfl)
  rw [lg_entry_eq]
  generalize (lg_sl ([.ref (ad 30), .int x, .int w]) ++ List.replicate (3 - (lg_sl ([.ref (ad 30), .int x, .int w])).length) Slot.unset).toArray = ls at hl ⊢
  have hl : lv_has ls 3 [(0, .ref (ad 30)), (1, .int x), (2, .int w)] := hl
  refine lv_aload_n hx hb dX2_person_0 rfl (lv_at hl 0 rfl) ?_
  refine lv_aload_n hx hb dX2_person_1 rfl (lv_at hl 0 rfl) ?_
  refine lv_iload_n hx hb dX2_person_2 rfl (lv_at hl 1 rfl) ?_
  refine vp_callSi (W.runV (As := [.int x]) (rest := [.ref (ad 30)]) ⟨hx, hb, hml, hown, hts⟩ (c_X2_noPerson l D ci ad z F th hd mk sz ce as np kd pu x hN) (cwV 1 hts gX2_person_X2_noPerson rfl rfl rfl (by decide +kernel) ⟨Nat.le_of_ble_eq_true rfl, Nat.le_of_ble_eq_true rfl⟩) ⟨WD.fb, (va_recv hK hP (ci := 2) (q0 := 0) rfl rfl), fun U hU hW => ⟨rfl, WD.call hP hD hK hE hS hU hW⟩⟩ rfl rfl hl.1 rfl (lv_room (Nat.le_of_ble_eq_true rfl)) dX2_person_3 ⟨Nat.le_of_ble_eq_true rfl, Nat.le_of_ble_eq_true rfl⟩) (fun r3 hw3 => ?_)
  rcases hw3 with ⟨rfl, h3⟩ | ⟨rfl, h3⟩
  · skip
    refine lv_iconst (v := 0) hx hb dX2_person_6 (by decide) ?_
    refine va_calli (va_runV (As := [.int 1, .int 0]) (rest := []) ⟨hx, hb, hml, hown, hts⟩ (c_X2_fails l D ci ad z F th hd mk sz ce as np kd pu 1 0 ) (cwV 2 hts gX2_person_X2_fails rfl rfl rfl (by decide +kernel) ⟨Nat.le_of_ble_eq_true rfl, Nat.le_of_ble_eq_true rfl⟩) ⟨WD.fb, (va_recv hK hP (ci := 2) (q0 := 0) rfl rfl), fun U hU hW => ⟨rfl, WD.call hP hD hK hE hS hU hW⟩⟩ rfl rfl hl.1 rfl (lv_room (Nat.le_of_ble_eq_true rfl)) dX2_person_7 ⟨Nat.le_of_ble_eq_true rfl, Nat.le_of_ble_eq_true rfl⟩) hS (fun q _ h => h) (fun q h => h) (fun r7 u7 t7 H locs ht7 hvm7 hw7 hB7 hz7 hk7 hS => ?_)
    obtain ⟨hP, hD⟩ := hB7
    rw [ht7] at hP
    rcases hw7 with ⟨rfl, h7⟩ | ⟨rfl, h7⟩
    rotate_left
    · exact absurd h7.1 (by decide)
    have hu7 : u7 = 1 := u1 h7
    subst hu7
    refine lv_if_eq (tgt := 15) hx hb dX2_person_10 (by decide) (fun c10 => absurd c10 (by decide)) (fun c10 => ?_)
    refine lv_lconst (v := 0) hx hb dX2_person_13 (by decide) ?_
    exact W.lret (v := 0) hx hb hr (fun t ht _ => ⟨⟨_, (1), rfl, Or.inl ⟨rfl, h3⟩, by rw [ht]; exact hP, hD⟩, hS.F ht⟩) hS.2.2 dX2_person_14
  · skip
    obtain ⟨k, hk, ek⟩ := h3
    refine lv_iconst (v := 0) hx hb dX2_person_6 (by decide) ?_
    refine va_calli (va_runV (As := [.int 0, .int 0]) (rest := []) ⟨hx, hb, hml, hown, hts⟩ (c_X2_fails l D ci ad z F th hd mk sz ce as np kd pu 0 0 ) (cwV 2 hts gX2_person_X2_fails rfl rfl rfl (by decide +kernel) ⟨Nat.le_of_ble_eq_true rfl, Nat.le_of_ble_eq_true rfl⟩) ⟨WD.fb, (va_recv hK hP (ci := 2) (q0 := 0) rfl rfl), fun U hU hW => ⟨rfl, WD.call hP hD hK hE hS hU hW⟩⟩ rfl rfl hl.1 rfl (lv_room (Nat.le_of_ble_eq_true rfl)) dX2_person_7 ⟨Nat.le_of_ble_eq_true rfl, Nat.le_of_ble_eq_true rfl⟩) hS (fun q _ h => h) (fun q h => h) (fun r7 u7 t7 H locs ht7 hvm7 hw7 hB7 hz7 hk7 hS => ?_)
    obtain ⟨hP, hD⟩ := hB7
    rw [ht7] at hP
    rcases hw7 with ⟨rfl, h7⟩ | ⟨rfl, h7⟩
    · exact absurd rfl (h7.elim (fun q => q.1) (fun q => q.2.1))
    have hu7 : u7 = 0 := h7.2.2
    subst hu7
    refine lv_if_eq (tgt := 15) hx hb dX2_person_10 (by decide) (fun c10 => ?_) (fun c10 => absurd c10 (by decide))
    refine lv_iload_n hx hb dX2_person_15 rfl (lv_at hl 2 rfl) ?_
    by_cases w0 : w = 0
    · skip
      refine lv_tableIn (off := 28) (tgt := 44) hx hb dX2_person_16 (by rw [w0]; decide) (by rw [w0]; decide) (by rw [w0]; decide) (by decide) ?_
      refine lv_aload_n hx hb dX2_person_44 rfl (lv_at hl 0 rfl) ?_
      refine va_get (D := D) (ci := 2) (C := RX2) (T := TX2) (N := 9) hx hb hts hin2 hown hK hP 0 rfl rfl 7 (by decide) (hts (.fieldLink RX2 26 "DutyRotaModel" "kinds" "[I") (by decide +kernel)) (fun _ h9 => h9) rfl dX2_person_45 ?_
      refine lv_iload_n hx hb dX2_person_48 rfl (lv_at hl 1 rfl) ?_
      refine rw_ild hx hb hK hP 6 0 rfl rfl (j := k) (ek) (by omega) (by decide) dX2_person_49 ?_
      refine lv_i2l hx hb dX2_person_50 rfl ?_
      exact W.lret (v := (kd k).toInt64) hx hb hr (fun t ht _ => ⟨⟨_, (0), rfl, Or.inr ⟨rfl, k, hk, ek, Or.inl ⟨w0, rfl⟩⟩, by rw [ht]; exact hP, hD⟩, hS.F ht⟩) hS.2.2 dX2_person_51
    by_cases w1 : w = 1
    · skip
      refine lv_tableIn (off := 36) (tgt := 52) hx hb dX2_person_16 (by rw [w1]; decide) (by rw [w1]; decide) (by rw [w1]; decide) (by decide) ?_
      refine lv_aload_n hx hb dX2_person_52 rfl (lv_at hl 0 rfl) ?_
      refine va_get (D := D) (ci := 2) (C := RX2) (T := TX2) (N := 9) hx hb hts hin2 hown hK hP 0 rfl rfl 8 (by decide) (hts (.fieldLink RX2 29 "DutyRotaModel" "purses" "[J") (by decide +kernel)) (fun _ h9 => h9) rfl dX2_person_53 ?_
      refine lv_iload_n hx hb dX2_person_56 rfl (lv_at hl 1 rfl) ?_
      refine rw_lld hx hb hK hP 7 1 rfl rfl (j := k) (ek) (by omega) (by decide) dX2_person_57 ?_
      exact W.lret (v := (pu k)) hx hb hr (fun t ht _ => ⟨⟨_, (0), rfl, Or.inr ⟨rfl, k, hk, ek, Or.inr (Or.inl ⟨w1, rfl⟩)⟩, by rw [ht]; exact hP, hD⟩, hS.F ht⟩) hS.2.2 dX2_person_58
    by_cases w2 : w = 2
    · skip
      refine lv_tableIn (off := 43) (tgt := 59) hx hb dX2_person_16 (by rw [w2]; decide) (by rw [w2]; decide) (by rw [w2]; decide) (by decide) ?_
      refine lv_aload_n hx hb dX2_person_59 rfl (lv_at hl 0 rfl) ?_
      refine lv_iload_n hx hb dX2_person_60 rfl (lv_at hl 1 rfl) ?_
      refine vp_callSi (W.runV (As := [.int x]) (rest := []) ⟨hx, hb, hml, hown, hts⟩ (c_X2_stands l D ci ad z F 0 hd mk sz ce as np kd pu Hg Z x hH hZ) (cwV 1 hts gX2_person_X2_stands rfl rfl rfl (by decide +kernel) ⟨Nat.le_of_ble_eq_true rfl, Nat.le_of_ble_eq_true rfl⟩) ⟨WD.fb, (va_recv hK hP (ci := 2) (q0 := 0) rfl rfl), fun U hU hW => ⟨rfl, WD.call hP hD hK hE hS hU hW⟩⟩ rfl rfl hl.1 rfl (lv_room (Nat.le_of_ble_eq_true rfl)) dX2_person_61 ⟨Nat.le_of_ble_eq_true rfl, Nat.le_of_ble_eq_true rfl⟩) (fun r61 hw61 => ?_)
      refine lv_i2l hx hb dX2_person_64 rfl ?_
      exact W.lret (v := r61.toInt64) hx hb hr (fun t ht _ => ⟨⟨_, (0), rfl, Or.inr ⟨rfl, k, hk, ek, Or.inr (Or.inr (Or.inl ⟨w2, by rw [hw61, ek, nI_l (by omega)]⟩))⟩, by rw [ht]; exact hP, hD⟩, hS.F ht⟩) hS.2.2 dX2_person_65
    refine lv_tableOut (tgt := 66) hx hb dX2_person_16 (tab3 w0 w1 w2) (by decide) ?_
    refine lv_ldc2 hx hb hown (hts (.constantLong RX2 54 (-1)) (by decide +kernel)) dX2_person_66 ?_
    exact W.lret (v := (-1)) hx hb hr (fun t ht _ => ⟨⟨_, (0), rfl, Or.inr ⟨rfl, k, hk, ek, Or.inr (Or.inr (Or.inr ⟨w0, w1, w2, rfl⟩))⟩, by rw [ht]; exact hP, hD⟩, hS.F ht⟩) hS.2.2 dX2_person_69
set_option maxHeartbeats 4000000 in
set_option maxRecDepth 100000 in
theorem c_X2_count (l : Launch) (D : va_G) (ci : Nat → ClassId) (ad : Nat → Nat) (z : Nat) (F : va_W) (th : Int32) (hd : Nat → Int32) (mk : Nat → Int32) (sz : Nat → Int32) (ce : Nat → Int64) (as : Nat → Int64) (np : Nat) (kd : Nat → Int32) (pu : Nat → Int64) (Hg Z : Nat → Nat) (hH : hOK hd Hg) (hZ : zOK sz Z) (hN : np ≤ 60) (hMK : ∀ t, t < 9 → ¬ mk t < 0) (hRO : ∀ h, h < 8 → mV mk (Hg h) ≤ 2 → ∀ q, q < sV mk Z (Hg h) → okV np (rV ce (Hg h) q)) : Met l yX2_count wsX2_count ({ frames := 0, cells := 0, slots := 0, locals := 0 }) (va_Pc [.ref (ad 30)] (fun U => WD D ci ad z (wM ci ad th hd mk sz ce as np kd pu ++ F) U)) (va_Qi (fun (r : Int32) (u : Int32) => r = nI np ∧ u = 0) (fun u t => va_P D vwCl (wM ci ad u hd mk sz ce as np kd pu ++ F) t.heap ∧ va_D (LA z) (wM ci ad u hd mk sz ce as np kd pu ++ F)) (LA z)) 0 0 (LA z) := by
  refine Met.ofW (cc := cX2_count) (maxL := 1) (ret := (some .int)) (by decide) rfl ?_
  intro p e s m args below meth c s₁ B hml hv
  obtain ⟨rfl, hP, hD, hK, hE⟩ := hv
  have hx := B.exec
  have hb := B.bytes
  have hr := B.returns
  have hts := atoms_spec (ws := wsX2_count) B.pre
  have hown : s.vm.findClass RX2 = some m.cls := findClass_of_methodNamed B.named
  have hlocks := B.notSynchronized
  have hS : va_S (LA z) s.heap s.heap [] := va_S.rf
  have hin2 : ∀ w ∈ wsX20, w ∈ wsX2_count := by decide +kernel
  have hl := lv_entry ([.ref (ad 30)]) (n := 1) (Nat.le_of_ble_eq_true rfl)
  rw [lg_entry_eq]
  generalize (lg_sl ([.ref (ad 30)]) ++ List.replicate (1 - (lg_sl ([.ref (ad 30)])).length) Slot.unset).toArray = ls at hl ⊢
  have hl : lv_has ls 1 [(0, .ref (ad 30))] := hl
  refine lv_aload_n hx hb dX2_count_0 rfl (lv_at hl 0 rfl) ?_
  refine lv_iconst (v := 0) hx hb dX2_count_1 (by decide) ?_
  refine va_put (D := D) (ci := 2) (ty := .int) (C := RX2) (T := TX2) (N := 9) hx hb hts hin2 tyX2 tyX2_ok nmX2 hown hK hP hD hS 0 rfl rfl 0 (by decide) (hts (.fieldLink RX2 32 "DutyRotaModel" "thrown" "I") (by decide +kernel)) (fun _ h9 => h9) rfl (by decide +kernel) rfl rfl (Nat.le_of_ble_eq_true rfl) dX2_count_2 (fun H locs hP hD hS => ?_)
  have hP : va_P D vwCl (wM ci ad 0 hd mk sz ce as np kd pu ++ F) H := hP
  have hD : va_D (LA z) (wM ci ad 0 hd mk sz ce as np kd pu ++ F) := hD
  refine lv_aload_n hx hb dX2_count_5 rfl (lv_at hl 0 rfl) ?_
  refine va_get (D := D) (ci := 2) (C := RX2) (T := TX2) (N := 9) hx hb hts hin2 hown hK hP 0 rfl rfl 6 (by decide) (hts (.fieldLink RX2 40 "DutyRotaModel" "persons" "I") (by decide +kernel)) (fun _ h9 => h9) rfl dX2_count_6 ?_
  exact W.iret (v := (nI np)) hx hb hr (fun t ht _ => ⟨⟨_, (0), rfl, ⟨rfl, rfl⟩, by rw [ht]; exact hP, hD⟩, hS.F ht⟩) hS.2.2 dX2_count_9
set_option maxHeartbeats 4000000 in
set_option maxRecDepth 100000 in
theorem c_X2_hang (l : Launch) (D : va_G) (ci : Nat → ClassId) (ad : Nat → Nat) (z : Nat) (F : va_W) (th : Int32) (hd : Nat → Int32) (mk : Nat → Int32) (sz : Nat → Int32) (ce : Nat → Int64) (as : Nat → Int64) (np : Nat) (kd : Nat → Int32) (pu : Nat → Int64) (Hg Z : Nat → Nat) (x y t : Int32) (hH : hOK hd Hg) (hZ : zOK sz Z) (hN : np ≤ 60) (hMK : ∀ t, t < 9 → ¬ mk t < 0) (hRO : ∀ h, h < 8 → mV mk (Hg h) ≤ 2 → ∀ q, q < sV mk Z (Hg h) → okV np (rV ce (Hg h) q)) : Met l yX2_hang wsX2_hang ({ frames := 2, cells := 0, slots := 0, locals := 42 }) (va_Pc [.ref (ad 30), .int x, .int y, .int t] (fun U => WD D ci ad z (wM ci ad th hd mk sz ce as np kd pu ++ F) U)) (va_Qi (fun (r : Int32) (u : Int32 × (Nat → Int32) × (Nat → Int32) × (Nat → Int32) × (Nat → Int64)) => (u.1 = 1 ∧ (badH x ∨ (y < 0 ∨ 6 < y) ∨ 40 < t) ∧ u.2 = (hd, mk, sz, ce)) ∨ (u.1 = 0 ∧ ¬ y < 0 ∧ ¬ 6 < y ∧ t ≤ 40 ∧ ∃ a, a < 8 ∧ x = nI a ∧ hangM hd mk sz ce a y t r u.2.1 u.2.2.1 u.2.2.2.1 u.2.2.2.2)) (fun u t => va_P D vwCl (wM ci ad u.1 u.2.1 u.2.2.1 u.2.2.2.1 u.2.2.2.2 as np kd pu ++ F) t.heap ∧ va_D (LA z) (wM ci ad u.1 u.2.1 u.2.2.1 u.2.2.2.1 u.2.2.2.2 as np kd pu ++ F)) (LA z)) 0 0 (LA z) := by
  refine Met.ofW (cc := cX2_hang) (maxL := 6) (ret := (some .int)) (by decide) rfl ?_
  intro p e s m args below meth c s₁ B hml hv
  obtain ⟨rfl, hP, hD, hK, hE⟩ := hv
  have hx := B.exec
  have hb := B.bytes
  have hr := B.returns
  have hts := atoms_spec (ws := wsX2_hang) B.pre
  have hown : s.vm.findClass RX2 = some m.cls := findClass_of_methodNamed B.named
  have hlocks := B.notSynchronized
  have hS : va_S (LA z) s.heap s.heap [] := va_S.rf
  have hin2 : ∀ w ∈ wsX20, w ∈ wsX2_hang := by decide +kernel
  have hl := lv_entry ([.ref (ad 30), .int x, .int y, .int t]) (n := 6) (Nat.le_of_ble_eq_true rfl)
  rw [lg_entry_eq]
  generalize (lg_sl ([.ref (ad 30), .int x, .int y, .int t]) ++ List.replicate (6 - (lg_sl ([.ref (ad 30), .int x, .int y, .int t])).length) Slot.unset).toArray = ls at hl ⊢
  have hl : lv_has ls 6 [(0, .ref (ad 30)), (1, .int x), (2, .int y), (3, .int t)] := hl
  refine lv_aload_n hx hb dX2_hang_0 rfl (lv_at hl 0 rfl) ?_
  refine lv_iload_n hx hb dX2_hang_1 rfl (lv_at hl 1 rfl) ?_
  refine vp_callSi (W.runS (As := [.int x]) (rest := [.ref (ad 30)]) ⟨hx, hb, hml, hown, hts⟩ (c_X2_noHook l x ) (va_cwS 1 hts gX2_hang_X2_noHook rfl rfl rfl (by decide +kernel) ⟨Nat.le_of_ble_eq_true rfl, Nat.le_of_ble_eq_true rfl⟩) ⟨fb0, fun U hU hW => ⟨rfl, trivial⟩⟩ rfl rfl hl.1 rfl (lv_room (Nat.le_of_ble_eq_true rfl)) dX2_hang_2 ⟨Nat.le_of_ble_eq_true rfl, Nat.le_of_ble_eq_true rfl⟩) (fun r2 hw2 => ?_)
  rcases hw2 with ⟨rfl, h2⟩ | ⟨rfl, h2⟩
  · skip
    refine lv_if_ne (tgt := 24) hx hb dX2_hang_5 (by decide) (fun c5 => ?_) (fun c5 => absurd c5 (by decide))
    refine lv_iconst (v := 1) hx hb dX2_hang_24 (by decide) ?_
    refine lv_goto (tgt := 29) hx hb dX2_hang_25 (by decide) ?_
    refine lv_iconst (v := 0) hx hb dX2_hang_29 (by decide) ?_
    refine va_calli (va_runV (As := [.int 1, .int 0]) (rest := []) ⟨hx, hb, hml, hown, hts⟩ (c_X2_fails l D ci ad z F th hd mk sz ce as np kd pu 1 0 ) (cwV 2 hts gX2_hang_X2_fails rfl rfl rfl (by decide +kernel) ⟨Nat.le_of_ble_eq_true rfl, Nat.le_of_ble_eq_true rfl⟩) ⟨WD.fb, (va_recv hK hP (ci := 2) (q0 := 0) rfl rfl), fun U hU hW => ⟨rfl, WD.call hP hD hK hE hS hU hW⟩⟩ rfl rfl hl.1 rfl (lv_room (Nat.le_of_ble_eq_true rfl)) dX2_hang_30 ⟨Nat.le_of_ble_eq_true rfl, Nat.le_of_ble_eq_true rfl⟩) hS (fun q _ h => h) (fun q h => h) (fun r30 u30 t30 H locs ht30 hvm30 hw30 hB30 hz30 hk30 hS => ?_)
    obtain ⟨hP, hD⟩ := hB30
    rw [ht30] at hP
    rcases hw30 with ⟨rfl, h30⟩ | ⟨rfl, h30⟩
    rotate_left
    · exact absurd h30.1 (by decide)
    have hu30 : u30 = 1 := u1 h30
    subst hu30
    refine lv_if_eq (tgt := 38) hx hb dX2_hang_33 (by decide) (fun c33 => absurd c33 (by decide)) (fun c33 => ?_)
    refine lv_iconst (v := 0) hx hb dX2_hang_36 (by decide) ?_
    exact W.iret (v := 0) hx hb hr (fun t ht _ => ⟨⟨_, (1, hd, mk, sz, ce), rfl, Or.inl ⟨rfl, Or.inl h2, rfl⟩, by rw [ht]; exact hP, hD⟩, hS.F ht⟩) hS.2.2 dX2_hang_37
  · skip
    obtain ⟨a, ha, ea⟩ := h2
    refine lv_if_ne (tgt := 24) hx hb dX2_hang_5 (by decide) (fun c5 => absurd c5 (by decide)) (fun c5 => ?_)
    refine lv_iload_n hx hb dX2_hang_8 rfl (lv_at hl 2 rfl) ?_
    refine lv_iconst (v := 0) hx hb dX2_hang_9 (by decide) ?_
    refine lv_bipush (v := 6) hx hb dX2_hang_10 (by decide) ?_
    refine vp_callSi (W.runS (As := [.int y, .int 0, .int 6]) (rest := [.ref (ad 30)]) ⟨hx, hb, hml, hown, hts⟩ (c_X2_outside l y 0 6 ) (va_cwS 3 hts gX2_hang_X2_outside rfl rfl rfl (by decide +kernel) ⟨Nat.le_of_ble_eq_true rfl, Nat.le_of_ble_eq_true rfl⟩) ⟨fb0, fun U hU hW => ⟨rfl, trivial⟩⟩ rfl rfl hl.1 rfl (lv_room (Nat.le_of_ble_eq_true rfl)) dX2_hang_12 ⟨Nat.le_of_ble_eq_true rfl, Nat.le_of_ble_eq_true rfl⟩) (fun r12 hw12 => ?_)
    rcases hw12 with ⟨rfl, h12⟩ | ⟨rfl, h12⟩
    · skip
      refine lv_if_ne (tgt := 24) hx hb dX2_hang_15 (by decide) (fun c15 => ?_) (fun c15 => absurd c15 (by decide))
      refine lv_iconst (v := 1) hx hb dX2_hang_24 (by decide) ?_
      refine lv_goto (tgt := 29) hx hb dX2_hang_25 (by decide) ?_
      refine lv_iconst (v := 0) hx hb dX2_hang_29 (by decide) ?_
      refine va_calli (va_runV (As := [.int 1, .int 0]) (rest := []) ⟨hx, hb, hml, hown, hts⟩ (c_X2_fails l D ci ad z F th hd mk sz ce as np kd pu 1 0 ) (cwV 2 hts gX2_hang_X2_fails rfl rfl rfl (by decide +kernel) ⟨Nat.le_of_ble_eq_true rfl, Nat.le_of_ble_eq_true rfl⟩) ⟨WD.fb, (va_recv hK hP (ci := 2) (q0 := 0) rfl rfl), fun U hU hW => ⟨rfl, WD.call hP hD hK hE hS hU hW⟩⟩ rfl rfl hl.1 rfl (lv_room (Nat.le_of_ble_eq_true rfl)) dX2_hang_30 ⟨Nat.le_of_ble_eq_true rfl, Nat.le_of_ble_eq_true rfl⟩) hS (fun q _ h => h) (fun q h => h) (fun r30 u30 t30 H locs ht30 hvm30 hw30 hB30 hz30 hk30 hS => ?_)
      obtain ⟨hP, hD⟩ := hB30
      rw [ht30] at hP
      rcases hw30 with ⟨rfl, h30⟩ | ⟨rfl, h30⟩
      rotate_left
      · exact absurd h30.1 (by decide)
      have hu30 : u30 = 1 := u1 h30
      subst hu30
      refine lv_if_eq (tgt := 38) hx hb dX2_hang_33 (by decide) (fun c33 => absurd c33 (by decide)) (fun c33 => ?_)
      refine lv_iconst (v := 0) hx hb dX2_hang_36 (by decide) ?_
      exact W.iret (v := 0) hx hb hr (fun t ht _ => ⟨⟨_, (1, hd, mk, sz, ce), rfl, Or.inl ⟨rfl, Or.inr (Or.inl h12), rfl⟩, by rw [ht]; exact hP, hD⟩, hS.F ht⟩) hS.2.2 dX2_hang_37
    · skip
      refine lv_if_ne (tgt := 24) hx hb dX2_hang_15 (by decide) (fun c15 => absurd c15 (by decide)) (fun c15 => ?_)
      refine lv_iload_n hx hb dX2_hang_18 rfl (lv_at hl 3 rfl) ?_
      refine lv_bipush (v := 40) hx hb dX2_hang_19 (by decide) ?_
      refine lv_icmp_le (tgt := 28) hx hb dX2_hang_21 (by decide) (fun c21 => ?_) (fun c21 => ?_)
      · skip
        refine lv_iconst (v := 0) hx hb dX2_hang_28 (by decide) ?_
        refine lv_iconst (v := 0) hx hb dX2_hang_29 (by decide) ?_
        refine va_calli (va_runV (As := [.int 0, .int 0]) (rest := []) ⟨hx, hb, hml, hown, hts⟩ (c_X2_fails l D ci ad z F th hd mk sz ce as np kd pu 0 0 ) (cwV 2 hts gX2_hang_X2_fails rfl rfl rfl (by decide +kernel) ⟨Nat.le_of_ble_eq_true rfl, Nat.le_of_ble_eq_true rfl⟩) ⟨WD.fb, (va_recv hK hP (ci := 2) (q0 := 0) rfl rfl), fun U hU hW => ⟨rfl, WD.call hP hD hK hE hS hU hW⟩⟩ rfl rfl hl.1 rfl (lv_room (Nat.le_of_ble_eq_true rfl)) dX2_hang_30 ⟨Nat.le_of_ble_eq_true rfl, Nat.le_of_ble_eq_true rfl⟩) hS (fun q _ h => h) (fun q h => h) (fun r30 u30 t30 H locs ht30 hvm30 hw30 hB30 hz30 hk30 hS => ?_)
        obtain ⟨hP, hD⟩ := hB30
        rw [ht30] at hP
        rcases hw30 with ⟨rfl, h30⟩ | ⟨rfl, h30⟩
        · exact absurd rfl (h30.elim (fun q => q.1) (fun q => q.2.1))
        have hu30 : u30 = 0 := h30.2.2
        subst hu30
        refine lv_if_eq (tgt := 38) hx hb dX2_hang_33 (by decide) (fun c33 => ?_) (fun c33 => absurd c33 (by decide))
        refine lv_iload_n hx hb dX2_hang_38 rfl (lv_at hl 2 rfl) ?_
        refine vp_callSi (W.runS (As := [.int y]) (rest := []) ⟨hx, hb, hml, hown, hts⟩ (c_X2_isRow l y ) (va_cwS 1 hts gX2_hang_X2_isRow rfl rfl rfl (by decide +kernel) ⟨Nat.le_of_ble_eq_true rfl, Nat.le_of_ble_eq_true rfl⟩) ⟨fb0, fun U hU hW => ⟨rfl, trivial⟩⟩ rfl rfl hl.1 rfl (lv_room (Nat.le_of_ble_eq_true rfl)) dX2_hang_39 ⟨Nat.le_of_ble_eq_true rfl, Nat.le_of_ble_eq_true rfl⟩) (fun r39 hw39 => ?_)
        rcases hw39 with ⟨rfl, h39⟩ | ⟨rfl, h39⟩
        · skip
          refine lv_if_eq (tgt := 51) hx hb dX2_hang_42 (by decide) (fun c42 => absurd c42 (by decide)) (fun c42 => ?_)
          refine lv_iload_n hx hb dX2_hang_45 rfl (lv_at hl 3 rfl) ?_
          refine lv_if_ge (tgt := 51) hx hb dX2_hang_46 (by decide) (fun c46 => ?_) (fun c46 => ?_)
          · skip
            refine lv_aload_n hx hb dX2_hang_51 rfl (lv_at hl 0 rfl) ?_
            refine va_get (D := D) (ci := 2) (C := RX2) (T := TX2) (N := 9) hx hb hts hin2 hown hK hP 0 rfl rfl 1 (by decide) (hts (.fieldLink RX2 9 "DutyRotaModel" "held" "[I") (by decide +kernel)) (fun _ h9 => h9) rfl dX2_hang_52 ?_
            refine lv_iload_n hx hb dX2_hang_55 rfl (lv_at hl 1 rfl) ?_
            refine lv_iconst (v := -1) hx hb dX2_hang_56 (by decide) ?_
            refine rw_ist hx hb hK hP hD hS 1 0 rfl rfl (j := a) (ea) (ha) (by decide) (ws' := wM ci ad 0 (upd hd a (-1)) mk sz ce as np kd pu ++ F) rfl dX2_hang_57 (fun H locs hP hD hS => ?_)
            refine lv_iload_n hx hb dX2_hang_58 rfl (lv_at hl 2 rfl) ?_
            refine lv_bipush (v := 6) hx hb dX2_hang_59 (by decide) ?_
            refine lv_icmp_ne (tgt := 66) hx hb dX2_hang_61 (by decide) (fun c61 => ?_) (fun c61 => ?_)
            · skip
              obtain ⟨N, hN40, eN⟩ := le_in (S := 40) (by decide) (Int32.not_lt.mpr c46) c21
              refine lv_aload_n hx hb dX2_hang_66 rfl (lv_at hl 0 rfl) ?_
              refine vp_callSi (W.runV (As := []) (rest := []) ⟨hx, hb, hml, hown, hts⟩ (c_X2_fresh l D ci ad z F 0 (upd hd a (-1)) mk sz ce as np kd pu  (pg_some hH ha)) (cwV 0 hts gX2_hang_X2_fresh rfl rfl rfl (by decide +kernel) ⟨Nat.le_of_ble_eq_true rfl, Nat.le_of_ble_eq_true rfl⟩) ⟨WD.fb, (va_recv hK hP (ci := 2) (q0 := 0) rfl rfl), fun U hU hW => ⟨rfl, WD.call hP hD hK hE hS hU hW⟩⟩ rfl rfl hl.1 rfl (lv_room (Nat.le_of_ble_eq_true rfl)) dX2_hang_67 ⟨Nat.le_of_ble_eq_true rfl, Nat.le_of_ble_eq_true rfl⟩) (fun r67 hw67 => ?_)
              obtain ⟨i, hi9, ei, hfr⟩ := hw67
              subst ei
              refine lv_istore (lv' := [(4, .int (nI i)), (0, .ref (ad 30)), (1, .int x), (2, .int y), (3, .int t)]) hx hb dX2_hang_70 hl (by decide) rfl (fun ls hl => ?_)
              refine lv_aload_n hx hb dX2_hang_72 rfl (lv_at hl 1 rfl) ?_
              refine va_get (D := D) (ci := 2) (C := RX2) (T := TX2) (N := 9) hx hb hts hin2 hown hK hP 0 rfl rfl 1 (by decide) (hts (.fieldLink RX2 9 "DutyRotaModel" "held" "[I") (by decide +kernel)) (fun _ h9 => h9) rfl dX2_hang_73 ?_
              refine lv_iload_n hx hb dX2_hang_76 rfl (lv_at hl 2 rfl) ?_
              refine lv_iload hx hb dX2_hang_77 (lv_at hl 0 rfl) ?_
              refine rw_ist hx hb hK hP hD hS 1 0 rfl rfl (j := a) (ea) (ha) (by decide) (ws' := wM ci ad 0 (upd (upd hd a (-1)) a (nI i)) mk sz ce as np kd pu ++ F) rfl dX2_hang_79 (fun H locs hP hD hS => ?_)
              refine lv_aload_n hx hb dX2_hang_80 rfl (lv_at hl 1 rfl) ?_
              refine va_get (D := D) (ci := 2) (C := RX2) (T := TX2) (N := 9) hx hb hts hin2 hown hK hP 0 rfl rfl 2 (by decide) (hts (.fieldLink RX2 13 "DutyRotaModel" "makes" "[I") (by decide +kernel)) (fun _ h9 => h9) rfl dX2_hang_81 ?_
              refine lv_iload hx hb dX2_hang_84 (lv_at hl 0 rfl) ?_
              refine lv_iload_n hx hb dX2_hang_86 rfl (lv_at hl 3 rfl) ?_
              refine rw_ist hx hb hK hP hD hS 2 0 rfl rfl (j := i) (rfl) (by omega) (by decide) (ws' := wM ci ad 0 (upd (upd hd a (-1)) a (nI i)) (upd mk i y) sz ce as np kd pu ++ F) rfl dX2_hang_87 (fun H locs hP hD hS => ?_)
              refine lv_aload_n hx hb dX2_hang_88 rfl (lv_at hl 1 rfl) ?_
              refine va_get (D := D) (ci := 2) (C := RX2) (T := TX2) (N := 9) hx hb hts hin2 hown hK hP 0 rfl rfl 3 (by decide) (hts (.fieldLink RX2 16 "DutyRotaModel" "sizes" "[I") (by decide +kernel)) (fun _ h9 => h9) rfl dX2_hang_89 ?_
              refine lv_iload hx hb dX2_hang_92 (lv_at hl 0 rfl) ?_
              refine lv_iload_n hx hb dX2_hang_94 rfl (lv_at hl 3 rfl) ?_
              refine vp_callSi (W.runS (As := [.int y]) (rest := [.int (nI i), .ref (ad 33)]) ⟨hx, hb, hml, hown, hts⟩ (c_X2_isRow l y ) (va_cwS 1 hts gX2_hang_X2_isRow rfl rfl rfl (by decide +kernel) ⟨Nat.le_of_ble_eq_true rfl, Nat.le_of_ble_eq_true rfl⟩) ⟨fb0, fun U hU hW => ⟨rfl, trivial⟩⟩ rfl rfl hl.1 rfl (lv_room (Nat.le_of_ble_eq_true rfl)) dX2_hang_95 ⟨Nat.le_of_ble_eq_true rfl, Nat.le_of_ble_eq_true rfl⟩) (fun r95 hw95 => ?_)
              rcases hw95 with ⟨rfl, h95⟩ | ⟨rfl, h95⟩
              rotate_left
              · exact absurd h39 h95
              refine lv_if_eq (tgt := 105) hx hb dX2_hang_98 (by decide) (fun c98 => absurd c98 (by decide)) (fun c98 => ?_)
              refine lv_iload_n hx hb dX2_hang_101 rfl (lv_at hl 4 rfl) ?_
              refine lv_goto (tgt := 106) hx hb dX2_hang_102 (by decide) ?_
              refine rw_topi (y := nI N) (eN) ?_
              refine rw_ist hx hb hK hP hD hS 3 0 rfl rfl (j := i) (rfl) (by omega) (by decide) (ws' := wM ci ad 0 (upd (upd hd a (-1)) a (nI i)) (upd mk i y) (upd sz i (nI N)) ce as np kd pu ++ F) rfl dX2_hang_106 (fun H locs hP hD hS => ?_)
              refine lv_iconst (v := 0) hx hb dX2_hang_107 (by decide) ?_
              refine lv_istore (lv' := [(5, .int 0), (4, .int (nI i)), (0, .ref (ad 30)), (1, .int x), (2, .int y), (3, .int t)]) hx hb dX2_hang_108 hl (by decide) rfl (fun ls hl => ?_)
              have loop110 : ∀ (d110 : Nat) (q : Nat) (ce1 : Nat → Int64) (hd110 : N + 1 ≤ q + d110) (hq : q ≤ N) (hce : rowIs ce i (part (rV ce i) (fun _ => blankV y) 0 q) ce1) (H : Heap) (locs : List Loc) (hP : va_P D vwCl (wM ci ad 0 (upd (upd hd a (-1)) a (nI i)) (upd mk i y) (upd sz i (nI N)) ce1 as np kd pu ++ F) H) (hD : va_D (LA z) (wM ci ad 0 (upd (upd hd a (-1)) a (nI i)) (upd mk i y) (upd sz i (nI N)) ce1 as np kd pu ++ F)) (hS : va_S (LA z) s.heap H locs) (ls : Array Slot) (hl : lv_has ls 6 [(5, .int (nI q)), (4, .int (nI i)), (0, .ref (ad 30)), (1, .int x), (2, .int y), (3, .int t)]), W p l e ({ frames := 2, cells := 0, slots := 0, locals := 42 } : Room) s m ([.ref (ad 30), .int x, .int y, .int t] : List Value).toArray below meth c H locs 0 0 (MQ below (va_Qi (fun (r : Int32) (u : Int32 × (Nat → Int32) × (Nat → Int32) × (Nat → Int32) × (Nat → Int64)) => (u.1 = 1 ∧ (badH x ∨ (y < 0 ∨ 6 < y) ∨ 40 < t) ∧ u.2 = (hd, mk, sz, ce)) ∨ (u.1 = 0 ∧ ¬ y < 0 ∧ ¬ 6 < y ∧ t ≤ 40 ∧ ∃ a, a < 8 ∧ x = nI a ∧ hangM hd mk sz ce a y t r u.2.1 u.2.2.1 u.2.2.2.1 u.2.2.2.2)) (fun u t => va_P D vwCl (wM ci ad u.1 u.2.1 u.2.2.1 u.2.2.2.1 u.2.2.2.2 as np kd pu ++ F) t.heap ∧ va_D (LA z) (wM ci ad u.1 u.2.1 u.2.2.1 u.2.2.2.1 u.2.2.2.2 as np kd pu ++ F)) (LA z)) ([.ref (ad 30), .int x, .int y, .int t] : List Value).toArray s 0 0 (LA z)) (F0 m 110 ls []) := by
                intro d110
                induction d110 with
                | zero => intro q ce1 hd110 hq hce H locs hP hD hS ls hl; exact absurd hd110 (by omega)
                | succ d110 ih110 =>
                  intro q ce1 hd110 hq hce H locs hP hD hS ls hl
                  refine lv_iload hx hb dX2_hang_110 (lv_at hl 0 rfl) ?_
                  refine lv_aload_n hx hb dX2_hang_112 rfl (lv_at hl 2 rfl) ?_
                  refine va_get (D := D) (ci := 2) (C := RX2) (T := TX2) (N := 9) hx hb hts hin2 hown hK hP 0 rfl rfl 3 (by decide) (hts (.fieldLink RX2 16 "DutyRotaModel" "sizes" "[I") (by decide +kernel)) (fun _ h9 => h9) rfl dX2_hang_113 ?_
                  refine lv_iload hx hb dX2_hang_116 (lv_at hl 1 rfl) ?_
                  refine rw_ild hx hb hK hP 3 0 rfl rfl (j := i) (rfl) (by omega) (by decide) dX2_hang_118 ?_
                  refine rw_topi (y := (nI N)) (pk_us) ?_
                  refine lv_icmp_ge (tgt := 145) hx hb dX2_hang_119 (by decide) (fun c119 => ?_) (fun c119 => ?_)
                  · skip
                    have hE9 : q = N := by have := nI_ge_of c119 (by omega) (by omega); omega
                    refine lv_iconst (v := 0) hx hb dX2_hang_145 (by decide) ?_
                    exact W.iret (v := 0) hx hb hr (fun t ht _ => ⟨⟨_, (0, (upd (upd hd a (-1)) a (nI i)), (upd mk i y), (upd sz i (nI N)), ce1), rfl, Or.inr ⟨rfl, h12.1, h12.2, c21, a, ha, ea, Or.inr (Or.inr ⟨c61, i, N, hi9, hfr, Or.inl ⟨h39, eN, hN40⟩, rfl, rfl, rfl, rfl, by have h9 := hce; rw [hE9] at h9; exact h9⟩)⟩, by rw [ht]; exact hP, hD⟩, hS.F ht⟩) hS.2.2 dX2_hang_146
                  · skip
                    have hE9 : q < N := nI_lt_of c119 (by omega) (by omega)
                    refine lv_aload_n hx hb dX2_hang_122 rfl (lv_at hl 2 rfl) ?_
                    refine va_get (D := D) (ci := 2) (C := RX2) (T := TX2) (N := 9) hx hb hts hin2 hown hK hP 0 rfl rfl 4 (by decide) (hts (.fieldLink RX2 19 "DutyRotaModel" "cells" "[J") (by decide +kernel)) (fun _ h9 => h9) rfl dX2_hang_123 ?_
                    refine lv_bipush (v := 40) hx hb dX2_hang_126 (by decide) ?_
                    refine lv_iload hx hb dX2_hang_128 (lv_at hl 1 rfl) ?_
                    refine lv_imul hx hb dX2_hang_130 ?_
                    refine rw_topi (y := (nI (40 * i))) (ix40' _) ?_
                    refine lv_iload hx hb dX2_hang_131 (lv_at hl 0 rfl) ?_
                    refine lv_iadd hx hb dX2_hang_133 ?_
                    refine rw_topi (y := (nI (40 * i + q))) (nI_add _ _) ?_
                    refine lv_iload_n hx hb dX2_hang_134 rfl (lv_at hl 4 rfl) ?_
                    refine vp_callSl (W.runS (As := [.int y]) (rest := [.int (nI (40 * i + q)), .ref (ad 34)]) ⟨hx, hb, hml, hown, hts⟩ (c_X2_blank l y ) (va_cwS 1 hts gX2_hang_X2_blank rfl rfl rfl (by decide +kernel) ⟨Nat.le_of_ble_eq_true rfl, Nat.le_of_ble_eq_true rfl⟩) ⟨fb0, fun U hU hW => ⟨rfl, trivial⟩⟩ rfl rfl hl.1 rfl (lv_room (Nat.le_of_ble_eq_true rfl)) dX2_hang_135 ⟨Nat.le_of_ble_eq_true rfl, Nat.le_of_ble_eq_true rfl⟩) (fun r135 hw135 => ?_)
                    subst hw135
                    refine rw_lst hx hb hK hP hD hS 4 1 rfl rfl (j := (40 * i + q)) (rfl) (by omega) (by decide) (ws' := wM ci ad 0 (upd (upd hd a (-1)) a (nI i)) (upd mk i y) (upd sz i (nI N)) (vp_updL ce1 (40 * i + q) (blankV y)) as np kd pu ++ F) rfl dX2_hang_138 (fun H locs hP hD hS => ?_)
                    refine lv_iinc (v := (nI (q + 1))) (lv' := [(5, .int (nI (q + 1))), (4, .int (nI i)), (0, .ref (ad 30)), (1, .int x), (2, .int y), (3, .int t)]) hx hb dX2_hang_139 hl (k := 0) rfl (nI_1 _) (by decide) rfl (fun ls hl => ?_)
                    refine lv_goto (tgt := 110) hx hb dX2_hang_142 (by decide) ?_
                    exact ih110 (q + 1) (vp_updL ce1 (40 * i + q) (blankV y)) (by omega) (by omega) (by rw [← part_s (g := fun _ => blankV y) (Nat.zero_le q) rfl]; exact rowIs_up hce (by omega) _) H locs hP hD hS ls (lv_sub hl [0, 1, 2, 3, 4, 5] rfl)
              exact loop110 (N + 1) 0 ce (by omega) (by omega) (by rw [part_0]; exact rowIs_rf _ _) H locs hP hD hS ls (lv_sub hl [0, 1, 2, 3, 4, 5] rfl)
            · skip
              refine lv_iconst (v := 0) hx hb dX2_hang_64 (by decide) ?_
              exact W.iret (v := 0) hx hb hr (fun t ht _ => ⟨⟨_, (0, (upd hd a (-1)), mk, sz, ce), rfl, Or.inr ⟨rfl, h12.1, h12.2, c21, a, ha, ea, Or.inl ⟨c61, rfl, rfl, rfl, rfl, rfl⟩⟩, by rw [ht]; exact hP, hD⟩, hS.F ht⟩) hS.2.2 dX2_hang_65
          · skip
            refine lv_iconst (v := 4) hx hb dX2_hang_49 (by decide) ?_
            exact W.iret (v := 4) hx hb hr (fun t ht _ => ⟨⟨_, (0, hd, mk, sz, ce), rfl, Or.inr ⟨rfl, h12.1, h12.2, c21, a, ha, ea, Or.inr (Or.inl ⟨fun e => absurd (e ▸ h39) (by decide), h39, Int32.not_le.mp c46, rfl, rfl, rfl, rfl, rfl⟩)⟩, by rw [ht]; exact hP, hD⟩, hS.F ht⟩) hS.2.2 dX2_hang_50
        · skip
          refine lv_if_eq (tgt := 51) hx hb dX2_hang_42 (by decide) (fun c42 => ?_) (fun c42 => absurd c42 (by decide))
          refine lv_aload_n hx hb dX2_hang_51 rfl (lv_at hl 0 rfl) ?_
          refine va_get (D := D) (ci := 2) (C := RX2) (T := TX2) (N := 9) hx hb hts hin2 hown hK hP 0 rfl rfl 1 (by decide) (hts (.fieldLink RX2 9 "DutyRotaModel" "held" "[I") (by decide +kernel)) (fun _ h9 => h9) rfl dX2_hang_52 ?_
          refine lv_iload_n hx hb dX2_hang_55 rfl (lv_at hl 1 rfl) ?_
          refine lv_iconst (v := -1) hx hb dX2_hang_56 (by decide) ?_
          refine rw_ist hx hb hK hP hD hS 1 0 rfl rfl (j := a) (ea) (ha) (by decide) (ws' := wM ci ad 0 (upd hd a (-1)) mk sz ce as np kd pu ++ F) rfl dX2_hang_57 (fun H locs hP hD hS => ?_)
          refine lv_iload_n hx hb dX2_hang_58 rfl (lv_at hl 2 rfl) ?_
          refine lv_bipush (v := 6) hx hb dX2_hang_59 (by decide) ?_
          refine lv_icmp_ne (tgt := 66) hx hb dX2_hang_61 (by decide) (fun c61 => ?_) (fun c61 => ?_)
          · skip
            obtain ⟨N, hN0⟩ : ∃ N : Nat, N = 0 := ⟨_, rfl⟩
            have hN40 : N ≤ 40 := by omega
            refine lv_aload_n hx hb dX2_hang_66 rfl (lv_at hl 0 rfl) ?_
            refine vp_callSi (W.runV (As := []) (rest := []) ⟨hx, hb, hml, hown, hts⟩ (c_X2_fresh l D ci ad z F 0 (upd hd a (-1)) mk sz ce as np kd pu  (pg_some hH ha)) (cwV 0 hts gX2_hang_X2_fresh rfl rfl rfl (by decide +kernel) ⟨Nat.le_of_ble_eq_true rfl, Nat.le_of_ble_eq_true rfl⟩) ⟨WD.fb, (va_recv hK hP (ci := 2) (q0 := 0) rfl rfl), fun U hU hW => ⟨rfl, WD.call hP hD hK hE hS hU hW⟩⟩ rfl rfl hl.1 rfl (lv_room (Nat.le_of_ble_eq_true rfl)) dX2_hang_67 ⟨Nat.le_of_ble_eq_true rfl, Nat.le_of_ble_eq_true rfl⟩) (fun r67 hw67 => ?_)
            obtain ⟨i, hi9, ei, hfr⟩ := hw67
            subst ei
            refine lv_istore (lv' := [(4, .int (nI i)), (0, .ref (ad 30)), (1, .int x), (2, .int y), (3, .int t)]) hx hb dX2_hang_70 hl (by decide) rfl (fun ls hl => ?_)
            refine lv_aload_n hx hb dX2_hang_72 rfl (lv_at hl 1 rfl) ?_
            refine va_get (D := D) (ci := 2) (C := RX2) (T := TX2) (N := 9) hx hb hts hin2 hown hK hP 0 rfl rfl 1 (by decide) (hts (.fieldLink RX2 9 "DutyRotaModel" "held" "[I") (by decide +kernel)) (fun _ h9 => h9) rfl dX2_hang_73 ?_
            refine lv_iload_n hx hb dX2_hang_76 rfl (lv_at hl 2 rfl) ?_
            refine lv_iload hx hb dX2_hang_77 (lv_at hl 0 rfl) ?_
            refine rw_ist hx hb hK hP hD hS 1 0 rfl rfl (j := a) (ea) (ha) (by decide) (ws' := wM ci ad 0 (upd (upd hd a (-1)) a (nI i)) mk sz ce as np kd pu ++ F) rfl dX2_hang_79 (fun H locs hP hD hS => ?_)
            refine lv_aload_n hx hb dX2_hang_80 rfl (lv_at hl 1 rfl) ?_
            refine va_get (D := D) (ci := 2) (C := RX2) (T := TX2) (N := 9) hx hb hts hin2 hown hK hP 0 rfl rfl 2 (by decide) (hts (.fieldLink RX2 13 "DutyRotaModel" "makes" "[I") (by decide +kernel)) (fun _ h9 => h9) rfl dX2_hang_81 ?_
            refine lv_iload hx hb dX2_hang_84 (lv_at hl 0 rfl) ?_
            refine lv_iload_n hx hb dX2_hang_86 rfl (lv_at hl 3 rfl) ?_
            refine rw_ist hx hb hK hP hD hS 2 0 rfl rfl (j := i) (rfl) (by omega) (by decide) (ws' := wM ci ad 0 (upd (upd hd a (-1)) a (nI i)) (upd mk i y) sz ce as np kd pu ++ F) rfl dX2_hang_87 (fun H locs hP hD hS => ?_)
            refine lv_aload_n hx hb dX2_hang_88 rfl (lv_at hl 1 rfl) ?_
            refine va_get (D := D) (ci := 2) (C := RX2) (T := TX2) (N := 9) hx hb hts hin2 hown hK hP 0 rfl rfl 3 (by decide) (hts (.fieldLink RX2 16 "DutyRotaModel" "sizes" "[I") (by decide +kernel)) (fun _ h9 => h9) rfl dX2_hang_89 ?_
            refine lv_iload hx hb dX2_hang_92 (lv_at hl 0 rfl) ?_
            refine lv_iload_n hx hb dX2_hang_94 rfl (lv_at hl 3 rfl) ?_
            refine vp_callSi (W.runS (As := [.int y]) (rest := [.int (nI i), .ref (ad 33)]) ⟨hx, hb, hml, hown, hts⟩ (c_X2_isRow l y ) (va_cwS 1 hts gX2_hang_X2_isRow rfl rfl rfl (by decide +kernel) ⟨Nat.le_of_ble_eq_true rfl, Nat.le_of_ble_eq_true rfl⟩) ⟨fb0, fun U hU hW => ⟨rfl, trivial⟩⟩ rfl rfl hl.1 rfl (lv_room (Nat.le_of_ble_eq_true rfl)) dX2_hang_95 ⟨Nat.le_of_ble_eq_true rfl, Nat.le_of_ble_eq_true rfl⟩) (fun r95 hw95 => ?_)
            rcases hw95 with ⟨rfl, h95⟩ | ⟨rfl, h95⟩
            · exact absurd h95 h39
            refine lv_if_eq (tgt := 105) hx hb dX2_hang_98 (by decide) (fun c98 => ?_) (fun c98 => absurd c98 (by decide))
            refine lv_iconst (v := 0) hx hb dX2_hang_105 (by decide) ?_
            refine rw_topi (y := nI N) (by rw [hN0]; rfl) ?_
            refine rw_ist hx hb hK hP hD hS 3 0 rfl rfl (j := i) (rfl) (by omega) (by decide) (ws' := wM ci ad 0 (upd (upd hd a (-1)) a (nI i)) (upd mk i y) (upd sz i (nI N)) ce as np kd pu ++ F) rfl dX2_hang_106 (fun H locs hP hD hS => ?_)
            refine lv_iconst (v := 0) hx hb dX2_hang_107 (by decide) ?_
            refine lv_istore (lv' := [(5, .int 0), (4, .int (nI i)), (0, .ref (ad 30)), (1, .int x), (2, .int y), (3, .int t)]) hx hb dX2_hang_108 hl (by decide) rfl (fun ls hl => ?_)
            have loop110 : ∀ (d110 : Nat) (q : Nat) (ce1 : Nat → Int64) (hd110 : N + 1 ≤ q + d110) (hq : q ≤ N) (hce : rowIs ce i (part (rV ce i) (fun _ => blankV y) 0 q) ce1) (H : Heap) (locs : List Loc) (hP : va_P D vwCl (wM ci ad 0 (upd (upd hd a (-1)) a (nI i)) (upd mk i y) (upd sz i (nI N)) ce1 as np kd pu ++ F) H) (hD : va_D (LA z) (wM ci ad 0 (upd (upd hd a (-1)) a (nI i)) (upd mk i y) (upd sz i (nI N)) ce1 as np kd pu ++ F)) (hS : va_S (LA z) s.heap H locs) (ls : Array Slot) (hl : lv_has ls 6 [(5, .int (nI q)), (4, .int (nI i)), (0, .ref (ad 30)), (1, .int x), (2, .int y), (3, .int t)]), W p l e ({ frames := 2, cells := 0, slots := 0, locals := 42 } : Room) s m ([.ref (ad 30), .int x, .int y, .int t] : List Value).toArray below meth c H locs 0 0 (MQ below (va_Qi (fun (r : Int32) (u : Int32 × (Nat → Int32) × (Nat → Int32) × (Nat → Int32) × (Nat → Int64)) => (u.1 = 1 ∧ (badH x ∨ (y < 0 ∨ 6 < y) ∨ 40 < t) ∧ u.2 = (hd, mk, sz, ce)) ∨ (u.1 = 0 ∧ ¬ y < 0 ∧ ¬ 6 < y ∧ t ≤ 40 ∧ ∃ a, a < 8 ∧ x = nI a ∧ hangM hd mk sz ce a y t r u.2.1 u.2.2.1 u.2.2.2.1 u.2.2.2.2)) (fun u t => va_P D vwCl (wM ci ad u.1 u.2.1 u.2.2.1 u.2.2.2.1 u.2.2.2.2 as np kd pu ++ F) t.heap ∧ va_D (LA z) (wM ci ad u.1 u.2.1 u.2.2.1 u.2.2.2.1 u.2.2.2.2 as np kd pu ++ F)) (LA z)) ([.ref (ad 30), .int x, .int y, .int t] : List Value).toArray s 0 0 (LA z)) (F0 m 110 ls []) := by
              intro d110
              induction d110 with
              | zero => intro q ce1 hd110 hq hce H locs hP hD hS ls hl; exact absurd hd110 (by omega)
              | succ d110 ih110 =>
                intro q ce1 hd110 hq hce H locs hP hD hS ls hl
                refine lv_iload hx hb dX2_hang_110 (lv_at hl 0 rfl) ?_
                refine lv_aload_n hx hb dX2_hang_112 rfl (lv_at hl 2 rfl) ?_
                refine va_get (D := D) (ci := 2) (C := RX2) (T := TX2) (N := 9) hx hb hts hin2 hown hK hP 0 rfl rfl 3 (by decide) (hts (.fieldLink RX2 16 "DutyRotaModel" "sizes" "[I") (by decide +kernel)) (fun _ h9 => h9) rfl dX2_hang_113 ?_
                refine lv_iload hx hb dX2_hang_116 (lv_at hl 1 rfl) ?_
                refine rw_ild hx hb hK hP 3 0 rfl rfl (j := i) (rfl) (by omega) (by decide) dX2_hang_118 ?_
                refine rw_topi (y := (nI N)) (pk_us) ?_
                refine lv_icmp_ge (tgt := 145) hx hb dX2_hang_119 (by decide) (fun c119 => ?_) (fun c119 => ?_)
                · skip
                  have hE9 : q = N := by have := nI_ge_of c119 (by omega) (by omega); omega
                  refine lv_iconst (v := 0) hx hb dX2_hang_145 (by decide) ?_
                  exact W.iret (v := 0) hx hb hr (fun t ht _ => ⟨⟨_, (0, (upd (upd hd a (-1)) a (nI i)), (upd mk i y), (upd sz i (nI N)), ce1), rfl, Or.inr ⟨rfl, h12.1, h12.2, c21, a, ha, ea, Or.inr (Or.inr ⟨c61, i, N, hi9, hfr, Or.inr ⟨h39, hN0⟩, rfl, rfl, rfl, rfl, by have h9 := hce; rw [hE9] at h9; exact h9⟩)⟩, by rw [ht]; exact hP, hD⟩, hS.F ht⟩) hS.2.2 dX2_hang_146
                · skip
                  have hE9 : q < N := nI_lt_of c119 (by omega) (by omega)
                  refine lv_aload_n hx hb dX2_hang_122 rfl (lv_at hl 2 rfl) ?_
                  refine va_get (D := D) (ci := 2) (C := RX2) (T := TX2) (N := 9) hx hb hts hin2 hown hK hP 0 rfl rfl 4 (by decide) (hts (.fieldLink RX2 19 "DutyRotaModel" "cells" "[J") (by decide +kernel)) (fun _ h9 => h9) rfl dX2_hang_123 ?_
                  refine lv_bipush (v := 40) hx hb dX2_hang_126 (by decide) ?_
                  refine lv_iload hx hb dX2_hang_128 (lv_at hl 1 rfl) ?_
                  refine lv_imul hx hb dX2_hang_130 ?_
                  refine rw_topi (y := (nI (40 * i))) (ix40' _) ?_
                  refine lv_iload hx hb dX2_hang_131 (lv_at hl 0 rfl) ?_
                  refine lv_iadd hx hb dX2_hang_133 ?_
                  refine rw_topi (y := (nI (40 * i + q))) (nI_add _ _) ?_
                  refine lv_iload_n hx hb dX2_hang_134 rfl (lv_at hl 4 rfl) ?_
                  refine vp_callSl (W.runS (As := [.int y]) (rest := [.int (nI (40 * i + q)), .ref (ad 34)]) ⟨hx, hb, hml, hown, hts⟩ (c_X2_blank l y ) (va_cwS 1 hts gX2_hang_X2_blank rfl rfl rfl (by decide +kernel) ⟨Nat.le_of_ble_eq_true rfl, Nat.le_of_ble_eq_true rfl⟩) ⟨fb0, fun U hU hW => ⟨rfl, trivial⟩⟩ rfl rfl hl.1 rfl (lv_room (Nat.le_of_ble_eq_true rfl)) dX2_hang_135 ⟨Nat.le_of_ble_eq_true rfl, Nat.le_of_ble_eq_true rfl⟩) (fun r135 hw135 => ?_)
                  subst hw135
                  refine rw_lst hx hb hK hP hD hS 4 1 rfl rfl (j := (40 * i + q)) (rfl) (by omega) (by decide) (ws' := wM ci ad 0 (upd (upd hd a (-1)) a (nI i)) (upd mk i y) (upd sz i (nI N)) (vp_updL ce1 (40 * i + q) (blankV y)) as np kd pu ++ F) rfl dX2_hang_138 (fun H locs hP hD hS => ?_)
                  refine lv_iinc (v := (nI (q + 1))) (lv' := [(5, .int (nI (q + 1))), (4, .int (nI i)), (0, .ref (ad 30)), (1, .int x), (2, .int y), (3, .int t)]) hx hb dX2_hang_139 hl (k := 0) rfl (nI_1 _) (by decide) rfl (fun ls hl => ?_)
                  refine lv_goto (tgt := 110) hx hb dX2_hang_142 (by decide) ?_
                  exact ih110 (q + 1) (vp_updL ce1 (40 * i + q) (blankV y)) (by omega) (by omega) (by rw [← part_s (g := fun _ => blankV y) (Nat.zero_le q) rfl]; exact rowIs_up hce (by omega) _) H locs hP hD hS ls (lv_sub hl [0, 1, 2, 3, 4, 5] rfl)
            exact loop110 (N + 1) 0 ce (by omega) (by omega) (by rw [part_0]; exact rowIs_rf _ _) H locs hP hD hS ls (lv_sub hl [0, 1, 2, 3, 4, 5] rfl)
          · skip
            refine lv_iconst (v := 0) hx hb dX2_hang_64 (by decide) ?_
            exact W.iret (v := 0) hx hb hr (fun t ht _ => ⟨⟨_, (0, (upd hd a (-1)), mk, sz, ce), rfl, Or.inr ⟨rfl, h12.1, h12.2, c21, a, ha, ea, Or.inl ⟨c61, rfl, rfl, rfl, rfl, rfl⟩⟩, by rw [ht]; exact hP, hD⟩, hS.F ht⟩) hS.2.2 dX2_hang_65
      · skip
        refine lv_iconst (v := 1) hx hb dX2_hang_24 (by decide) ?_
        refine lv_goto (tgt := 29) hx hb dX2_hang_25 (by decide) ?_
        refine lv_iconst (v := 0) hx hb dX2_hang_29 (by decide) ?_
        refine va_calli (va_runV (As := [.int 1, .int 0]) (rest := []) ⟨hx, hb, hml, hown, hts⟩ (c_X2_fails l D ci ad z F th hd mk sz ce as np kd pu 1 0 ) (cwV 2 hts gX2_hang_X2_fails rfl rfl rfl (by decide +kernel) ⟨Nat.le_of_ble_eq_true rfl, Nat.le_of_ble_eq_true rfl⟩) ⟨WD.fb, (va_recv hK hP (ci := 2) (q0 := 0) rfl rfl), fun U hU hW => ⟨rfl, WD.call hP hD hK hE hS hU hW⟩⟩ rfl rfl hl.1 rfl (lv_room (Nat.le_of_ble_eq_true rfl)) dX2_hang_30 ⟨Nat.le_of_ble_eq_true rfl, Nat.le_of_ble_eq_true rfl⟩) hS (fun q _ h => h) (fun q h => h) (fun r30 u30 t30 H locs ht30 hvm30 hw30 hB30 hz30 hk30 hS => ?_)
        obtain ⟨hP, hD⟩ := hB30
        rw [ht30] at hP
        rcases hw30 with ⟨rfl, h30⟩ | ⟨rfl, h30⟩
        rotate_left
        · exact absurd h30.1 (by decide)
        have hu30 : u30 = 1 := u1 h30
        subst hu30
        refine lv_if_eq (tgt := 38) hx hb dX2_hang_33 (by decide) (fun c33 => absurd c33 (by decide)) (fun c33 => ?_)
        refine lv_iconst (v := 0) hx hb dX2_hang_36 (by decide) ?_
        exact W.iret (v := 0) hx hb hr (fun t ht _ => ⟨⟨_, (1, hd, mk, sz, ce), rfl, Or.inl ⟨rfl, Or.inr (Or.inr (Int32.not_le.mp c21)), rfl⟩, by rw [ht]; exact hP, hD⟩, hS.F ht⟩) hS.2.2 dX2_hang_37
