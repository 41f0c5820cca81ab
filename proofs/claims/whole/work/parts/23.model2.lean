set_option maxHeartbeats 4000000 in
set_option maxRecDepth 100000 in
theorem c_X2_refused (l : Launch) (D : va_G) (ci : Nat → ClassId) (ad : Nat → Nat) (z : Nat) (F : va_W) (th : Int32) (hd : Nat → Int32) (mk : Nat → Int32) (sz : Nat → Int32) (ce : Nat → Int64) (as : Nat → Int64) (np : Nat) (kd : Nat → Int32) (pu : Nat → Int64) (Hg Z : Nat → Nat) (x i y j k : Int32) (a b : Nat) (hH : hOK hd Hg) (hZ : zOK sz Z) (ha : a < 8) (ea : x = nI a) (hb8 : b < 8) (eb : y = nI b) : Met l yX2_refused wsX2_refused ({ frames := 2, cells := 0, slots := 0, locals := 42 }) (va_Pc [.ref (ad 30), .int x, .int i, .int y, .int j, .int k] (fun U => WD D ci ad z (wM ci ad th hd mk sz ce as np kd pu ++ F) U)) (vp_Si (fun r => rfP (mV mk (Hg a)) (mV mk (Hg b)) (sV mk Z (Hg a)) (sV mk Z (Hg b)) i j k r)) 0 0 (fun _ => False) := by
  refine Met.ofW (cc := cX2_refused) (maxL := 10) (ret := (some .int)) (by decide) rfl ?_
  intro p e s m args below meth c s₁ B hml hv
  obtain ⟨rfl, hP, hD, hK, hE⟩ := hv
  have hx := B.exec
  have hb := B.bytes
  have hr := B.returns
  have hts := atoms_spec (ws := wsX2_refused) B.pre
  have hown : s.vm.findClass RX2 = some m.cls := findClass_of_methodNamed B.named
  have hlocks := B.notSynchronized
  have hS : va_S (LA z) s.heap s.heap [] := va_S.rf
  have hl := lv_entry ([.ref (ad 30), .int x, .int i, .int y, .int j, .int k]) (n := 10) (Nat.le_of_ble_eq_true rfl)
  rw [lg_entry_eq]
  generalize (lg_sl ([.ref (ad 30), .int x, .int i, .int y, .int j, .int k]) ++ List.replicate (10 - (lg_sl ([.ref (ad 30), .int x, .int i, .int y, .int j, .int k])).length) Slot.unset).toArray = ls at hl ⊢
  have hl : lv_has ls 10 [(0, .ref (ad 30)), (1, .int x), (2, .int i), (3, .int y), (4, .int j), (5, .int k)] := hl
  refine lv_aload_n hx hb dX2_refused_0 rfl (lv_at hl 0 rfl) ?_
  refine lv_iload_n hx hb dX2_refused_1 rfl (lv_at hl 1 rfl) ?_
  refine vp_callSi (W.runV (As := [.int x]) (rest := []) ⟨hx, hb, hml, hown, hts⟩ (c_X2_makeOf l D ci ad z F th hd mk sz ce as np kd pu Hg Z x a hH hZ ha ea) (cwV 1 hts gX2_refused_X2_makeOf rfl rfl rfl (by decide +kernel) ⟨Nat.le_of_ble_eq_true rfl, Nat.le_of_ble_eq_true rfl⟩) ⟨WD.fb, (va_recv hK hP (ci := 2) (q0 := 0) rfl rfl), fun U hU hW => ⟨rfl, WD.call hP hD hK hE hS hU hW⟩⟩ rfl rfl hl.1 rfl (lv_room (Nat.le_of_ble_eq_true rfl)) dX2_refused_2 ⟨Nat.le_of_ble_eq_true rfl, Nat.le_of_ble_eq_true rfl⟩) (fun r2 hw2 => ?_)
  subst hw2
  refine lv_istore (lv' := [(6, .int (mV mk (Hg a))), (0, .ref (ad 30)), (1, .int x), (2, .int i), (3, .int y), (4, .int j), (5, .int k)]) hx hb dX2_refused_5 hl (by decide) rfl (fun ls hl => ?_)
  refine lv_aload_n hx hb dX2_refused_7 rfl (lv_at hl 1 rfl) ?_
  refine lv_iload_n hx hb dX2_refused_8 rfl (lv_at hl 4 rfl) ?_
  refine vp_callSi (W.runV (As := [.int y]) (rest := []) ⟨hx, hb, hml, hown, hts⟩ (c_X2_makeOf l D ci ad z F th hd mk sz ce as np kd pu Hg Z y b hH hZ hb8 eb) (cwV 1 hts gX2_refused_X2_makeOf rfl rfl rfl (by decide +kernel) ⟨Nat.le_of_ble_eq_true rfl, Nat.le_of_ble_eq_true rfl⟩) ⟨WD.fb, (va_recv hK hP (ci := 2) (q0 := 0) rfl rfl), fun U hU hW => ⟨rfl, WD.call hP hD hK hE hS hU hW⟩⟩ rfl rfl hl.1 rfl (lv_room (Nat.le_of_ble_eq_true rfl)) dX2_refused_9 ⟨Nat.le_of_ble_eq_true rfl, Nat.le_of_ble_eq_true rfl⟩) (fun r9 hw9 => ?_)
  subst hw9
  refine lv_istore (lv' := [(7, .int (mV mk (Hg b))), (6, .int (mV mk (Hg a))), (0, .ref (ad 30)), (1, .int x), (2, .int i), (3, .int y), (4, .int j), (5, .int k)]) hx hb dX2_refused_12 hl (by decide) rfl (fun ls hl => ?_)
  refine lv_iload hx hb dX2_refused_14 (lv_at hl 1 rfl) ?_
  refine lv_bipush (v := 6) hx hb dX2_refused_16 (by decide) ?_
  refine lv_icmp_eq (tgt := 28) hx hb dX2_refused_18 (by decide) (fun c18 => ?_) (fun c18 => ?_)
  · skip
    refine lv_iconst (v := 1) hx hb dX2_refused_28 (by decide) ?_
    exact W.iret (v := 1) hx hb hr (fun t ht _ => ⟨_, rfl, Or.inl ⟨Or.inl c18, rfl⟩, ht⟩) (fun _ h => nomatch h) dX2_refused_29
  · skip
    refine lv_iload hx hb dX2_refused_21 (lv_at hl 0 rfl) ?_
    refine lv_bipush (v := 6) hx hb dX2_refused_23 (by decide) ?_
    refine lv_icmp_ne (tgt := 30) hx hb dX2_refused_25 (by decide) (fun c25 => ?_) (fun c25 => ?_)
    · skip
      refine lv_iload hx hb dX2_refused_30 (lv_at hl 1 rfl) ?_
      refine vp_callSi (W.runS (As := [.int (mV mk (Hg a))]) (rest := []) ⟨hx, hb, hml, hown, hts⟩ (c_X2_isRow l (mV mk (Hg a)) ) (va_cwS 1 hts gX2_refused_X2_isRow rfl rfl rfl (by decide +kernel) ⟨Nat.le_of_ble_eq_true rfl, Nat.le_of_ble_eq_true rfl⟩) ⟨fb0, fun U hU hW => ⟨rfl, trivial⟩⟩ rfl rfl hl.1 rfl (lv_room (Nat.le_of_ble_eq_true rfl)) dX2_refused_32 ⟨Nat.le_of_ble_eq_true rfl, Nat.le_of_ble_eq_true rfl⟩) (fun r32 hw32 => ?_)
      rcases hw32 with ⟨rfl, h32⟩ | ⟨rfl, h32⟩
      · skip
        refine lv_if_eq (tgt := 56) hx hb dX2_refused_35 (by decide) (fun c35 => absurd c35 (by decide)) (fun c35 => ?_)
        refine lv_iload hx hb dX2_refused_38 (lv_at hl 0 rfl) ?_
        refine vp_callSi (W.runS (As := [.int (mV mk (Hg b))]) (rest := []) ⟨hx, hb, hml, hown, hts⟩ (c_X2_isRow l (mV mk (Hg b)) ) (va_cwS 1 hts gX2_refused_X2_isRow rfl rfl rfl (by decide +kernel) ⟨Nat.le_of_ble_eq_true rfl, Nat.le_of_ble_eq_true rfl⟩) ⟨fb0, fun U hU hW => ⟨rfl, trivial⟩⟩ rfl rfl hl.1 rfl (lv_room (Nat.le_of_ble_eq_true rfl)) dX2_refused_40 ⟨Nat.le_of_ble_eq_true rfl, Nat.le_of_ble_eq_true rfl⟩) (fun r40 hw40 => ?_)
        rcases hw40 with ⟨rfl, h40⟩ | ⟨rfl, h40⟩
        · skip
          refine lv_if_eq (tgt := 56) hx hb dX2_refused_43 (by decide) (fun c43 => absurd c43 (by decide)) (fun c43 => ?_)
          refine lv_iload hx hb dX2_refused_46 (lv_at hl 1 rfl) ?_
          refine lv_iload hx hb dX2_refused_48 (lv_at hl 0 rfl) ?_
          refine vp_callSi (W.runS (As := [.int (mV mk (Hg a)), .int (mV mk (Hg b))]) (rest := []) ⟨hx, hb, hml, hown, hts⟩ (c_X2_areAlike l (mV mk (Hg a)) (mV mk (Hg b)) ) (va_cwS 2 hts gX2_refused_X2_areAlike rfl rfl rfl (by decide +kernel) ⟨Nat.le_of_ble_eq_true rfl, Nat.le_of_ble_eq_true rfl⟩) ⟨fb0, fun U hU hW => ⟨rfl, trivial⟩⟩ rfl rfl hl.1 rfl (lv_room (Nat.le_of_ble_eq_true rfl)) dX2_refused_50 ⟨Nat.le_of_ble_eq_true rfl, Nat.le_of_ble_eq_true rfl⟩) (fun r50 hw50 => ?_)
          rcases hw50 with ⟨rfl, h50⟩ | ⟨rfl, h50⟩
          · skip
            refine lv_if_ne (tgt := 58) hx hb dX2_refused_53 (by decide) (fun c53 => ?_) (fun c53 => absurd c53 (by decide))
            refine lv_iload_n hx hb dX2_refused_58 rfl (lv_at hl 4 rfl) ?_
            refine lv_if_lt (tgt := 72) hx hb dX2_refused_59 (by decide) (fun c59 => ?_) (fun c59 => ?_)
            · skip
              refine lv_iconst (v := 1) hx hb dX2_refused_72 (by decide) ?_
              refine lv_goto (tgt := 77) hx hb dX2_refused_73 (by decide) ?_
              refine lv_istore (lv' := [(8, .int 1), (7, .int (mV mk (Hg b))), (6, .int (mV mk (Hg a))), (0, .ref (ad 30)), (1, .int x), (2, .int i), (3, .int y), (4, .int j), (5, .int k)]) hx hb dX2_refused_77 hl (by decide) rfl (fun ls hl => ?_)
              refine lv_iload_n hx hb dX2_refused_79 rfl (lv_at hl 5 rfl) ?_
              refine lv_i2l hx hb dX2_refused_80 rfl ?_
              refine lv_iload hx hb dX2_refused_81 (lv_at hl 8 rfl) ?_
              refine lv_i2l hx hb dX2_refused_83 rfl ?_
              refine lv_ladd hx hb dX2_refused_84 ?_
              refine lv_aload_n hx hb dX2_refused_85 rfl (lv_at hl 3 rfl) ?_
              refine lv_iload_n hx hb dX2_refused_86 rfl (lv_at hl 4 rfl) ?_
              refine vp_callSi (W.runV (As := [.int x]) (rest := [.long (i.toInt64 + k.toInt64)]) ⟨hx, hb, hml, hown, hts⟩ (c_X2_sizeOf l D ci ad z F th hd mk sz ce as np kd pu Hg Z x a hH hZ ha ea) (cwV 1 hts gX2_refused_X2_sizeOf rfl rfl rfl (by decide +kernel) ⟨Nat.le_of_ble_eq_true rfl, Nat.le_of_ble_eq_true rfl⟩) ⟨WD.fb, (va_recv hK hP (ci := 2) (q0 := 0) rfl rfl), fun U hU hW => ⟨rfl, WD.call hP hD hK hE hS hU hW⟩⟩ rfl rfl hl.1 rfl (lv_room (Nat.le_of_ble_eq_true rfl)) dX2_refused_87 ⟨Nat.le_of_ble_eq_true rfl, Nat.le_of_ble_eq_true rfl⟩) (fun r87 hw87 => ?_)
              subst hw87
              refine lv_i2l hx hb dX2_refused_90 rfl ?_
              refine lv_lcmp3 hx hb dX2_refused_91 (fun x_1 ex_1 => ?_)
              refine lv_if_gt (tgt := 112) hx hb dX2_refused_92 (by decide) (fun c92 => ?_) (fun c92 => ?_)
              · skip
                refine lv_iconst (v := 1) hx hb dX2_refused_112 (by decide) ?_
                refine lv_goto (tgt := 117) hx hb dX2_refused_113 (by decide) ?_
                refine lv_istore (lv' := [(9, .int 1), (8, .int 1), (7, .int (mV mk (Hg b))), (6, .int (mV mk (Hg a))), (0, .ref (ad 30)), (1, .int x), (2, .int i), (3, .int y), (4, .int j), (5, .int k)]) hx hb dX2_refused_117 hl (by decide) rfl (fun ls hl => ?_)
                refine lv_iload hx hb dX2_refused_119 (lv_at hl 1 rfl) ?_
                refine lv_if_ne (tgt := 129) hx hb dX2_refused_121 (by decide) (fun c121 => ?_) (fun c121 => absurd c121 (by decide))
                refine lv_iconst (v := 3) hx hb dX2_refused_129 (by decide) ?_
                refine lv_goto (tgt := 134) hx hb dX2_refused_130 (by decide) ?_
                exact W.iret (v := 3) hx hb hr (fun t ht _ => ⟨_, rfl, Or.inr (Or.inr (Or.inl ⟨fun h => h.elim c18 c25, ⟨h32, h40, al2_fam.mp h50⟩, Or.inl (Or.inl c59), rfl⟩)), ht⟩) (fun _ h => nomatch h) dX2_refused_134
              · skip
                refine lv_iload hx hb dX2_refused_95 (lv_at hl 7 rfl) ?_
                refine lv_i2l hx hb dX2_refused_97 rfl ?_
                refine lv_iload hx hb dX2_refused_98 (lv_at hl 8 rfl) ?_
                refine lv_i2l hx hb dX2_refused_100 rfl ?_
                refine lv_ladd hx hb dX2_refused_101 ?_
                refine lv_aload_n hx hb dX2_refused_102 rfl (lv_at hl 3 rfl) ?_
                refine lv_iload_n hx hb dX2_refused_103 rfl (lv_at hl 6 rfl) ?_
                refine vp_callSi (W.runV (As := [.int y]) (rest := [.long (j.toInt64 + k.toInt64)]) ⟨hx, hb, hml, hown, hts⟩ (c_X2_sizeOf l D ci ad z F th hd mk sz ce as np kd pu Hg Z y b hH hZ hb8 eb) (cwV 1 hts gX2_refused_X2_sizeOf rfl rfl rfl (by decide +kernel) ⟨Nat.le_of_ble_eq_true rfl, Nat.le_of_ble_eq_true rfl⟩) ⟨WD.fb, (va_recv hK hP (ci := 2) (q0 := 0) rfl rfl), fun U hU hW => ⟨rfl, WD.call hP hD hK hE hS hU hW⟩⟩ rfl rfl hl.1 rfl (lv_room (Nat.le_of_ble_eq_true rfl)) dX2_refused_104 ⟨Nat.le_of_ble_eq_true rfl, Nat.le_of_ble_eq_true rfl⟩) (fun r104 hw104 => ?_)
                subst hw104
                refine lv_i2l hx hb dX2_refused_107 rfl ?_
                refine lv_lcmp3 hx hb dX2_refused_108 (fun x_2 ex_2 => ?_)
                refine lv_if_le (tgt := 116) hx hb dX2_refused_109 (by decide) (fun c109 => ?_) (fun c109 => ?_)
                · skip
                  refine lv_iconst (v := 0) hx hb dX2_refused_116 (by decide) ?_
                  refine lv_istore (lv' := [(9, .int 0), (8, .int 1), (7, .int (mV mk (Hg b))), (6, .int (mV mk (Hg a))), (0, .ref (ad 30)), (1, .int x), (2, .int i), (3, .int y), (4, .int j), (5, .int k)]) hx hb dX2_refused_117 hl (by decide) rfl (fun ls hl => ?_)
                  refine lv_iload hx hb dX2_refused_119 (lv_at hl 1 rfl) ?_
                  refine lv_if_ne (tgt := 129) hx hb dX2_refused_121 (by decide) (fun c121 => ?_) (fun c121 => absurd c121 (by decide))
                  refine lv_iconst (v := 3) hx hb dX2_refused_129 (by decide) ?_
                  refine lv_goto (tgt := 134) hx hb dX2_refused_130 (by decide) ?_
                  exact W.iret (v := 3) hx hb hr (fun t ht _ => ⟨_, rfl, Or.inr (Or.inr (Or.inl ⟨fun h => h.elim c18 c25, ⟨h32, h40, al2_fam.mp h50⟩, Or.inl (Or.inl c59), rfl⟩)), ht⟩) (fun _ h => nomatch h) dX2_refused_134
                · skip
                  refine lv_iconst (v := 1) hx hb dX2_refused_112 (by decide) ?_
                  refine lv_goto (tgt := 117) hx hb dX2_refused_113 (by decide) ?_
                  refine lv_istore (lv' := [(9, .int 1), (8, .int 1), (7, .int (mV mk (Hg b))), (6, .int (mV mk (Hg a))), (0, .ref (ad 30)), (1, .int x), (2, .int i), (3, .int y), (4, .int j), (5, .int k)]) hx hb dX2_refused_117 hl (by decide) rfl (fun ls hl => ?_)
                  refine lv_iload hx hb dX2_refused_119 (lv_at hl 1 rfl) ?_
                  refine lv_if_ne (tgt := 129) hx hb dX2_refused_121 (by decide) (fun c121 => ?_) (fun c121 => absurd c121 (by decide))
                  refine lv_iconst (v := 3) hx hb dX2_refused_129 (by decide) ?_
                  refine lv_goto (tgt := 134) hx hb dX2_refused_130 (by decide) ?_
                  exact W.iret (v := 3) hx hb hr (fun t ht _ => ⟨_, rfl, Or.inr (Or.inr (Or.inl ⟨fun h => h.elim c18 c25, ⟨h32, h40, al2_fam.mp h50⟩, Or.inl (Or.inl c59), rfl⟩)), ht⟩) (fun _ h => nomatch h) dX2_refused_134
            · skip
              refine lv_iload hx hb dX2_refused_62 (lv_at hl 6 rfl) ?_
              refine lv_if_lt (tgt := 72) hx hb dX2_refused_64 (by decide) (fun c64 => ?_) (fun c64 => ?_)
              · skip
                refine lv_iconst (v := 1) hx hb dX2_refused_72 (by decide) ?_
                refine lv_goto (tgt := 77) hx hb dX2_refused_73 (by decide) ?_
                refine lv_istore (lv' := [(8, .int 1), (7, .int (mV mk (Hg b))), (6, .int (mV mk (Hg a))), (0, .ref (ad 30)), (1, .int x), (2, .int i), (3, .int y), (4, .int j), (5, .int k)]) hx hb dX2_refused_77 hl (by decide) rfl (fun ls hl => ?_)
                refine lv_iload_n hx hb dX2_refused_79 rfl (lv_at hl 5 rfl) ?_
                refine lv_i2l hx hb dX2_refused_80 rfl ?_
                refine lv_iload hx hb dX2_refused_81 (lv_at hl 8 rfl) ?_
                refine lv_i2l hx hb dX2_refused_83 rfl ?_
                refine lv_ladd hx hb dX2_refused_84 ?_
                refine lv_aload_n hx hb dX2_refused_85 rfl (lv_at hl 3 rfl) ?_
                refine lv_iload_n hx hb dX2_refused_86 rfl (lv_at hl 4 rfl) ?_
                refine vp_callSi (W.runV (As := [.int x]) (rest := [.long (i.toInt64 + k.toInt64)]) ⟨hx, hb, hml, hown, hts⟩ (c_X2_sizeOf l D ci ad z F th hd mk sz ce as np kd pu Hg Z x a hH hZ ha ea) (cwV 1 hts gX2_refused_X2_sizeOf rfl rfl rfl (by decide +kernel) ⟨Nat.le_of_ble_eq_true rfl, Nat.le_of_ble_eq_true rfl⟩) ⟨WD.fb, (va_recv hK hP (ci := 2) (q0 := 0) rfl rfl), fun U hU hW => ⟨rfl, WD.call hP hD hK hE hS hU hW⟩⟩ rfl rfl hl.1 rfl (lv_room (Nat.le_of_ble_eq_true rfl)) dX2_refused_87 ⟨Nat.le_of_ble_eq_true rfl, Nat.le_of_ble_eq_true rfl⟩) (fun r87 hw87 => ?_)
                subst hw87
                refine lv_i2l hx hb dX2_refused_90 rfl ?_
                refine lv_lcmp3 hx hb dX2_refused_91 (fun x_3 ex_3 => ?_)
                refine lv_if_gt (tgt := 112) hx hb dX2_refused_92 (by decide) (fun c92 => ?_) (fun c92 => ?_)
                · skip
                  refine lv_iconst (v := 1) hx hb dX2_refused_112 (by decide) ?_
                  refine lv_goto (tgt := 117) hx hb dX2_refused_113 (by decide) ?_
                  refine lv_istore (lv' := [(9, .int 1), (8, .int 1), (7, .int (mV mk (Hg b))), (6, .int (mV mk (Hg a))), (0, .ref (ad 30)), (1, .int x), (2, .int i), (3, .int y), (4, .int j), (5, .int k)]) hx hb dX2_refused_117 hl (by decide) rfl (fun ls hl => ?_)
                  refine lv_iload hx hb dX2_refused_119 (lv_at hl 1 rfl) ?_
                  refine lv_if_ne (tgt := 129) hx hb dX2_refused_121 (by decide) (fun c121 => ?_) (fun c121 => absurd c121 (by decide))
                  refine lv_iconst (v := 3) hx hb dX2_refused_129 (by decide) ?_
                  refine lv_goto (tgt := 134) hx hb dX2_refused_130 (by decide) ?_
                  exact W.iret (v := 3) hx hb hr (fun t ht _ => ⟨_, rfl, Or.inr (Or.inr (Or.inl ⟨fun h => h.elim c18 c25, ⟨h32, h40, al2_fam.mp h50⟩, Or.inr (Or.inl c64), rfl⟩)), ht⟩) (fun _ h => nomatch h) dX2_refused_134
                · skip
                  refine lv_iload hx hb dX2_refused_95 (lv_at hl 7 rfl) ?_
                  refine lv_i2l hx hb dX2_refused_97 rfl ?_
                  refine lv_iload hx hb dX2_refused_98 (lv_at hl 8 rfl) ?_
                  refine lv_i2l hx hb dX2_refused_100 rfl ?_
                  refine lv_ladd hx hb dX2_refused_101 ?_
                  refine lv_aload_n hx hb dX2_refused_102 rfl (lv_at hl 3 rfl) ?_
                  refine lv_iload_n hx hb dX2_refused_103 rfl (lv_at hl 6 rfl) ?_
                  refine vp_callSi (W.runV (As := [.int y]) (rest := [.long (j.toInt64 + k.toInt64)]) ⟨hx, hb, hml, hown, hts⟩ (c_X2_sizeOf l D ci ad z F th hd mk sz ce as np kd pu Hg Z y b hH hZ hb8 eb) (cwV 1 hts gX2_refused_X2_sizeOf rfl rfl rfl (by decide +kernel) ⟨Nat.le_of_ble_eq_true rfl, Nat.le_of_ble_eq_true rfl⟩) ⟨WD.fb, (va_recv hK hP (ci := 2) (q0 := 0) rfl rfl), fun U hU hW => ⟨rfl, WD.call hP hD hK hE hS hU hW⟩⟩ rfl rfl hl.1 rfl (lv_room (Nat.le_of_ble_eq_true rfl)) dX2_refused_104 ⟨Nat.le_of_ble_eq_true rfl, Nat.le_of_ble_eq_true rfl⟩) (fun r104 hw104 => ?_)
                  subst hw104
                  refine lv_i2l hx hb dX2_refused_107 rfl ?_
                  refine lv_lcmp3 hx hb dX2_refused_108 (fun x_4 ex_4 => ?_)
                  refine lv_if_le (tgt := 116) hx hb dX2_refused_109 (by decide) (fun c109 => ?_) (fun c109 => ?_)
                  · skip
                    refine lv_iconst (v := 0) hx hb dX2_refused_116 (by decide) ?_
                    refine lv_istore (lv' := [(9, .int 0), (8, .int 1), (7, .int (mV mk (Hg b))), (6, .int (mV mk (Hg a))), (0, .ref (ad 30)), (1, .int x), (2, .int i), (3, .int y), (4, .int j), (5, .int k)]) hx hb dX2_refused_117 hl (by decide) rfl (fun ls hl => ?_)
                    refine lv_iload hx hb dX2_refused_119 (lv_at hl 1 rfl) ?_
                    refine lv_if_ne (tgt := 129) hx hb dX2_refused_121 (by decide) (fun c121 => ?_) (fun c121 => absurd c121 (by decide))
                    refine lv_iconst (v := 3) hx hb dX2_refused_129 (by decide) ?_
                    refine lv_goto (tgt := 134) hx hb dX2_refused_130 (by decide) ?_
                    exact W.iret (v := 3) hx hb hr (fun t ht _ => ⟨_, rfl, Or.inr (Or.inr (Or.inl ⟨fun h => h.elim c18 c25, ⟨h32, h40, al2_fam.mp h50⟩, Or.inr (Or.inl c64), rfl⟩)), ht⟩) (fun _ h => nomatch h) dX2_refused_134
                  · skip
                    refine lv_iconst (v := 1) hx hb dX2_refused_112 (by decide) ?_
                    refine lv_goto (tgt := 117) hx hb dX2_refused_113 (by decide) ?_
                    refine lv_istore (lv' := [(9, .int 1), (8, .int 1), (7, .int (mV mk (Hg b))), (6, .int (mV mk (Hg a))), (0, .ref (ad 30)), (1, .int x), (2, .int i), (3, .int y), (4, .int j), (5, .int k)]) hx hb dX2_refused_117 hl (by decide) rfl (fun ls hl => ?_)
                    refine lv_iload hx hb dX2_refused_119 (lv_at hl 1 rfl) ?_
                    refine lv_if_ne (tgt := 129) hx hb dX2_refused_121 (by decide) (fun c121 => ?_) (fun c121 => absurd c121 (by decide))
                    refine lv_iconst (v := 3) hx hb dX2_refused_129 (by decide) ?_
                    refine lv_goto (tgt := 134) hx hb dX2_refused_130 (by decide) ?_
                    exact W.iret (v := 3) hx hb hr (fun t ht _ => ⟨_, rfl, Or.inr (Or.inr (Or.inl ⟨fun h => h.elim c18 c25, ⟨h32, h40, al2_fam.mp h50⟩, Or.inr (Or.inl c64), rfl⟩)), ht⟩) (fun _ h => nomatch h) dX2_refused_134
              · skip
                refine lv_iload hx hb dX2_refused_67 (lv_at hl 7 rfl) ?_
                refine lv_if_ge (tgt := 76) hx hb dX2_refused_69 (by decide) (fun c69 => ?_) (fun c69 => ?_)
                · skip
                  refine lv_iconst (v := 0) hx hb dX2_refused_76 (by decide) ?_
                  refine lv_istore (lv' := [(8, .int 0), (7, .int (mV mk (Hg b))), (6, .int (mV mk (Hg a))), (0, .ref (ad 30)), (1, .int x), (2, .int i), (3, .int y), (4, .int j), (5, .int k)]) hx hb dX2_refused_77 hl (by decide) rfl (fun ls hl => ?_)
                  refine lv_iload_n hx hb dX2_refused_79 rfl (lv_at hl 5 rfl) ?_
                  refine lv_i2l hx hb dX2_refused_80 rfl ?_
                  refine lv_iload hx hb dX2_refused_81 (lv_at hl 8 rfl) ?_
                  refine lv_i2l hx hb dX2_refused_83 rfl ?_
                  refine lv_ladd hx hb dX2_refused_84 ?_
                  refine lv_aload_n hx hb dX2_refused_85 rfl (lv_at hl 3 rfl) ?_
                  refine lv_iload_n hx hb dX2_refused_86 rfl (lv_at hl 4 rfl) ?_
                  refine vp_callSi (W.runV (As := [.int x]) (rest := [.long (i.toInt64 + k.toInt64)]) ⟨hx, hb, hml, hown, hts⟩ (c_X2_sizeOf l D ci ad z F th hd mk sz ce as np kd pu Hg Z x a hH hZ ha ea) (cwV 1 hts gX2_refused_X2_sizeOf rfl rfl rfl (by decide +kernel) ⟨Nat.le_of_ble_eq_true rfl, Nat.le_of_ble_eq_true rfl⟩) ⟨WD.fb, (va_recv hK hP (ci := 2) (q0 := 0) rfl rfl), fun U hU hW => ⟨rfl, WD.call hP hD hK hE hS hU hW⟩⟩ rfl rfl hl.1 rfl (lv_room (Nat.le_of_ble_eq_true rfl)) dX2_refused_87 ⟨Nat.le_of_ble_eq_true rfl, Nat.le_of_ble_eq_true rfl⟩) (fun r87 hw87 => ?_)
                  subst hw87
                  refine lv_i2l hx hb dX2_refused_90 rfl ?_
                  refine lv_lcmp3 hx hb dX2_refused_91 (fun x_5 ex_5 => ?_)
                  refine lv_if_gt (tgt := 112) hx hb dX2_refused_92 (by decide) (fun c92 => ?_) (fun c92 => ?_)
                  · skip
                    refine lv_iconst (v := 1) hx hb dX2_refused_112 (by decide) ?_
                    refine lv_goto (tgt := 117) hx hb dX2_refused_113 (by decide) ?_
                    refine lv_istore (lv' := [(9, .int 1), (8, .int 0), (7, .int (mV mk (Hg b))), (6, .int (mV mk (Hg a))), (0, .ref (ad 30)), (1, .int x), (2, .int i), (3, .int y), (4, .int j), (5, .int k)]) hx hb dX2_refused_117 hl (by decide) rfl (fun ls hl => ?_)
                    refine lv_iload hx hb dX2_refused_119 (lv_at hl 1 rfl) ?_
                    refine lv_if_ne (tgt := 129) hx hb dX2_refused_121 (by decide) (fun c121 => absurd c121 (by decide)) (fun c121 => ?_)
                    refine lv_iload hx hb dX2_refused_124 (lv_at hl 0 rfl) ?_
                    refine lv_if_eq (tgt := 133) hx hb dX2_refused_126 (by decide) (fun c126 => absurd c126 (by decide)) (fun c126 => ?_)
                    refine lv_iconst (v := 3) hx hb dX2_refused_129 (by decide) ?_
                    refine lv_goto (tgt := 134) hx hb dX2_refused_130 (by decide) ?_
                    exact W.iret (v := 3) hx hb hr (fun t ht _ => ⟨_, rfl, Or.inr (Or.inr (Or.inl ⟨fun h => h.elim c18 c25, ⟨h32, h40, al2_fam.mp h50⟩, Or.inl (Or.inr (Or.inr (sp_gt ex_5 c92))), rfl⟩)), ht⟩) (fun _ h => nomatch h) dX2_refused_134
                  · skip
                    refine lv_iload hx hb dX2_refused_95 (lv_at hl 7 rfl) ?_
                    refine lv_i2l hx hb dX2_refused_97 rfl ?_
                    refine lv_iload hx hb dX2_refused_98 (lv_at hl 8 rfl) ?_
                    refine lv_i2l hx hb dX2_refused_100 rfl ?_
                    refine lv_ladd hx hb dX2_refused_101 ?_
                    refine lv_aload_n hx hb dX2_refused_102 rfl (lv_at hl 3 rfl) ?_
                    refine lv_iload_n hx hb dX2_refused_103 rfl (lv_at hl 6 rfl) ?_
                    refine vp_callSi (W.runV (As := [.int y]) (rest := [.long (j.toInt64 + k.toInt64)]) ⟨hx, hb, hml, hown, hts⟩ (c_X2_sizeOf l D ci ad z F th hd mk sz ce as np kd pu Hg Z y b hH hZ hb8 eb) (cwV 1 hts gX2_refused_X2_sizeOf rfl rfl rfl (by decide +kernel) ⟨Nat.le_of_ble_eq_true rfl, Nat.le_of_ble_eq_true rfl⟩) ⟨WD.fb, (va_recv hK hP (ci := 2) (q0 := 0) rfl rfl), fun U hU hW => ⟨rfl, WD.call hP hD hK hE hS hU hW⟩⟩ rfl rfl hl.1 rfl (lv_room (Nat.le_of_ble_eq_true rfl)) dX2_refused_104 ⟨Nat.le_of_ble_eq_true rfl, Nat.le_of_ble_eq_true rfl⟩) (fun r104 hw104 => ?_)
                    subst hw104
                    refine lv_i2l hx hb dX2_refused_107 rfl ?_
                    refine lv_lcmp3 hx hb dX2_refused_108 (fun x_6 ex_6 => ?_)
                    refine lv_if_le (tgt := 116) hx hb dX2_refused_109 (by decide) (fun c109 => ?_) (fun c109 => ?_)
                    · skip
                      refine lv_iconst (v := 0) hx hb dX2_refused_116 (by decide) ?_
                      refine lv_istore (lv' := [(9, .int 0), (8, .int 0), (7, .int (mV mk (Hg b))), (6, .int (mV mk (Hg a))), (0, .ref (ad 30)), (1, .int x), (2, .int i), (3, .int y), (4, .int j), (5, .int k)]) hx hb dX2_refused_117 hl (by decide) rfl (fun ls hl => ?_)
                      refine lv_iload hx hb dX2_refused_119 (lv_at hl 1 rfl) ?_
                      refine lv_if_ne (tgt := 129) hx hb dX2_refused_121 (by decide) (fun c121 => absurd c121 (by decide)) (fun c121 => ?_)
                      refine lv_iload hx hb dX2_refused_124 (lv_at hl 0 rfl) ?_
                      refine lv_if_eq (tgt := 133) hx hb dX2_refused_126 (by decide) (fun c126 => ?_) (fun c126 => absurd c126 (by decide))
                      refine lv_iconst (v := 0) hx hb dX2_refused_133 (by decide) ?_
                      exact W.iret (v := 0) hx hb hr (fun t ht _ => ⟨_, rfl, Or.inr (Or.inr (Or.inr ⟨fun h => h.elim c18 c25, ⟨h32, h40, al2_fam.mp h50⟩, fun h => h.elim (fun h => h.elim c59 (fun h => h.elim (Int32.not_lt.mpr c69) (sp_le ex_5 c92))) (fun h => h.elim c64 (fun h => h.elim (Int32.not_lt.mpr c69) (sl_ngt ex_6 c109))), rfl⟩)), ht⟩) (fun _ h => nomatch h) dX2_refused_134
                    · skip
                      refine lv_iconst (v := 1) hx hb dX2_refused_112 (by decide) ?_
                      refine lv_goto (tgt := 117) hx hb dX2_refused_113 (by decide) ?_
                      refine lv_istore (lv' := [(9, .int 1), (8, .int 0), (7, .int (mV mk (Hg b))), (6, .int (mV mk (Hg a))), (0, .ref (ad 30)), (1, .int x), (2, .int i), (3, .int y), (4, .int j), (5, .int k)]) hx hb dX2_refused_117 hl (by decide) rfl (fun ls hl => ?_)
                      refine lv_iload hx hb dX2_refused_119 (lv_at hl 1 rfl) ?_
                      refine lv_if_ne (tgt := 129) hx hb dX2_refused_121 (by decide) (fun c121 => absurd c121 (by decide)) (fun c121 => ?_)
                      refine lv_iload hx hb dX2_refused_124 (lv_at hl 0 rfl) ?_
                      refine lv_if_eq (tgt := 133) hx hb dX2_refused_126 (by decide) (fun c126 => absurd c126 (by decide)) (fun c126 => ?_)
                      refine lv_iconst (v := 3) hx hb dX2_refused_129 (by decide) ?_
                      refine lv_goto (tgt := 134) hx hb dX2_refused_130 (by decide) ?_
                      exact W.iret (v := 3) hx hb hr (fun t ht _ => ⟨_, rfl, Or.inr (Or.inr (Or.inl ⟨fun h => h.elim c18 c25, ⟨h32, h40, al2_fam.mp h50⟩, Or.inr (Or.inr (Or.inr (sl_gt ex_6 c109))), rfl⟩)), ht⟩) (fun _ h => nomatch h) dX2_refused_134
                · skip
                  refine lv_iconst (v := 1) hx hb dX2_refused_72 (by decide) ?_
                  refine lv_goto (tgt := 77) hx hb dX2_refused_73 (by decide) ?_
                  refine lv_istore (lv' := [(8, .int 1), (7, .int (mV mk (Hg b))), (6, .int (mV mk (Hg a))), (0, .ref (ad 30)), (1, .int x), (2, .int i), (3, .int y), (4, .int j), (5, .int k)]) hx hb dX2_refused_77 hl (by decide) rfl (fun ls hl => ?_)
                  refine lv_iload_n hx hb dX2_refused_79 rfl (lv_at hl 5 rfl) ?_
                  refine lv_i2l hx hb dX2_refused_80 rfl ?_
                  refine lv_iload hx hb dX2_refused_81 (lv_at hl 8 rfl) ?_
                  refine lv_i2l hx hb dX2_refused_83 rfl ?_
                  refine lv_ladd hx hb dX2_refused_84 ?_
                  refine lv_aload_n hx hb dX2_refused_85 rfl (lv_at hl 3 rfl) ?_
                  refine lv_iload_n hx hb dX2_refused_86 rfl (lv_at hl 4 rfl) ?_
                  refine vp_callSi (W.runV (As := [.int x]) (rest := [.long (i.toInt64 + k.toInt64)]) ⟨hx, hb, hml, hown, hts⟩ (c_X2_sizeOf l D ci ad z F th hd mk sz ce as np kd pu Hg Z x a hH hZ ha ea) (cwV 1 hts gX2_refused_X2_sizeOf rfl rfl rfl (by decide +kernel) ⟨Nat.le_of_ble_eq_true rfl, Nat.le_of_ble_eq_true rfl⟩) ⟨WD.fb, (va_recv hK hP (ci := 2) (q0 := 0) rfl rfl), fun U hU hW => ⟨rfl, WD.call hP hD hK hE hS hU hW⟩⟩ rfl rfl hl.1 rfl (lv_room (Nat.le_of_ble_eq_true rfl)) dX2_refused_87 ⟨Nat.le_of_ble_eq_true rfl, Nat.le_of_ble_eq_true rfl⟩) (fun r87 hw87 => ?_)
                  subst hw87
                  refine lv_i2l hx hb dX2_refused_90 rfl ?_
                  refine lv_lcmp3 hx hb dX2_refused_91 (fun x_7 ex_7 => ?_)
                  refine lv_if_gt (tgt := 112) hx hb dX2_refused_92 (by decide) (fun c92 => ?_) (fun c92 => ?_)
                  · skip
                    refine lv_iconst (v := 1) hx hb dX2_refused_112 (by decide) ?_
                    refine lv_goto (tgt := 117) hx hb dX2_refused_113 (by decide) ?_
                    refine lv_istore (lv' := [(9, .int 1), (8, .int 1), (7, .int (mV mk (Hg b))), (6, .int (mV mk (Hg a))), (0, .ref (ad 30)), (1, .int x), (2, .int i), (3, .int y), (4, .int j), (5, .int k)]) hx hb dX2_refused_117 hl (by decide) rfl (fun ls hl => ?_)
                    refine lv_iload hx hb dX2_refused_119 (lv_at hl 1 rfl) ?_
                    refine lv_if_ne (tgt := 129) hx hb dX2_refused_121 (by decide) (fun c121 => ?_) (fun c121 => absurd c121 (by decide))
                    refine lv_iconst (v := 3) hx hb dX2_refused_129 (by decide) ?_
                    refine lv_goto (tgt := 134) hx hb dX2_refused_130 (by decide) ?_
                    exact W.iret (v := 3) hx hb hr (fun t ht _ => ⟨_, rfl, Or.inr (Or.inr (Or.inl ⟨fun h => h.elim c18 c25, ⟨h32, h40, al2_fam.mp h50⟩, Or.inl (Or.inr (Or.inl (Int32.not_le.mp c69))), rfl⟩)), ht⟩) (fun _ h => nomatch h) dX2_refused_134
                  · skip
                    refine lv_iload hx hb dX2_refused_95 (lv_at hl 7 rfl) ?_
                    refine lv_i2l hx hb dX2_refused_97 rfl ?_
                    refine lv_iload hx hb dX2_refused_98 (lv_at hl 8 rfl) ?_
                    refine lv_i2l hx hb dX2_refused_100 rfl ?_
                    refine lv_ladd hx hb dX2_refused_101 ?_
                    refine lv_aload_n hx hb dX2_refused_102 rfl (lv_at hl 3 rfl) ?_
                    refine lv_iload_n hx hb dX2_refused_103 rfl (lv_at hl 6 rfl) ?_
                    refine vp_callSi (W.runV (As := [.int y]) (rest := [.long (j.toInt64 + k.toInt64)]) ⟨hx, hb, hml, hown, hts⟩ (c_X2_sizeOf l D ci ad z F th hd mk sz ce as np kd pu Hg Z y b hH hZ hb8 eb) (cwV 1 hts gX2_refused_X2_sizeOf rfl rfl rfl (by decide +kernel) ⟨Nat.le_of_ble_eq_true rfl, Nat.le_of_ble_eq_true rfl⟩) ⟨WD.fb, (va_recv hK hP (ci := 2) (q0 := 0) rfl rfl), fun U hU hW => ⟨rfl, WD.call hP hD hK hE hS hU hW⟩⟩ rfl rfl hl.1 rfl (lv_room (Nat.le_of_ble_eq_true rfl)) dX2_refused_104 ⟨Nat.le_of_ble_eq_true rfl, Nat.le_of_ble_eq_true rfl⟩) (fun r104 hw104 => ?_)
                    subst hw104
                    refine lv_i2l hx hb dX2_refused_107 rfl ?_
                    refine lv_lcmp3 hx hb dX2_refused_108 (fun x_8 ex_8 => ?_)
                    refine lv_if_le (tgt := 116) hx hb dX2_refused_109 (by decide) (fun c109 => ?_) (fun c109 => ?_)
                    · skip
                      refine lv_iconst (v := 0) hx hb dX2_refused_116 (by decide) ?_
                      refine lv_istore (lv' := [(9, .int 0), (8, .int 1), (7, .int (mV mk (Hg b))), (6, .int (mV mk (Hg a))), (0, .ref (ad 30)), (1, .int x), (2, .int i), (3, .int y), (4, .int j), (5, .int k)]) hx hb dX2_refused_117 hl (by decide) rfl (fun ls hl => ?_)
                      refine lv_iload hx hb dX2_refused_119 (lv_at hl 1 rfl) ?_
                      refine lv_if_ne (tgt := 129) hx hb dX2_refused_121 (by decide) (fun c121 => ?_) (fun c121 => absurd c121 (by decide))
                      refine lv_iconst (v := 3) hx hb dX2_refused_129 (by decide) ?_
                      refine lv_goto (tgt := 134) hx hb dX2_refused_130 (by decide) ?_
                      exact W.iret (v := 3) hx hb hr (fun t ht _ => ⟨_, rfl, Or.inr (Or.inr (Or.inl ⟨fun h => h.elim c18 c25, ⟨h32, h40, al2_fam.mp h50⟩, Or.inl (Or.inr (Or.inl (Int32.not_le.mp c69))), rfl⟩)), ht⟩) (fun _ h => nomatch h) dX2_refused_134
                    · skip
                      refine lv_iconst (v := 1) hx hb dX2_refused_112 (by decide) ?_
                      refine lv_goto (tgt := 117) hx hb dX2_refused_113 (by decide) ?_
                      refine lv_istore (lv' := [(9, .int 1), (8, .int 1), (7, .int (mV mk (Hg b))), (6, .int (mV mk (Hg a))), (0, .ref (ad 30)), (1, .int x), (2, .int i), (3, .int y), (4, .int j), (5, .int k)]) hx hb dX2_refused_117 hl (by decide) rfl (fun ls hl => ?_)
                      refine lv_iload hx hb dX2_refused_119 (lv_at hl 1 rfl) ?_
                      refine lv_if_ne (tgt := 129) hx hb dX2_refused_121 (by decide) (fun c121 => ?_) (fun c121 => absurd c121 (by decide))
                      refine lv_iconst (v := 3) hx hb dX2_refused_129 (by decide) ?_
                      refine lv_goto (tgt := 134) hx hb dX2_refused_130 (by decide) ?_
                      exact W.iret (v := 3) hx hb hr (fun t ht _ => ⟨_, rfl, Or.inr (Or.inr (Or.inl ⟨fun h => h.elim c18 c25, ⟨h32, h40, al2_fam.mp h50⟩, Or.inl (Or.inr (Or.inl (Int32.not_le.mp c69))), rfl⟩)), ht⟩) (fun _ h => nomatch h) dX2_refused_134
          · skip
            refine lv_if_ne (tgt := 58) hx hb dX2_refused_53 (by decide) (fun c53 => absurd c53 (by decide)) (fun c53 => ?_)
            refine lv_iconst (v := 2) hx hb dX2_refused_56 (by decide) ?_
            exact W.iret (v := 2) hx hb hr (fun t ht _ => ⟨_, rfl, Or.inr (Or.inl ⟨fun h => h.elim c18 c25, fun h => h50 (al2_fam.mpr h.2.2), rfl⟩), ht⟩) (fun _ h => nomatch h) dX2_refused_57
        · skip
          refine lv_if_eq (tgt := 56) hx hb dX2_refused_43 (by decide) (fun c43 => ?_) (fun c43 => absurd c43 (by decide))
          refine lv_iconst (v := 2) hx hb dX2_refused_56 (by decide) ?_
          exact W.iret (v := 2) hx hb hr (fun t ht _ => ⟨_, rfl, Or.inr (Or.inl ⟨fun h => h.elim c18 c25, fun h => h40 h.2.1, rfl⟩), ht⟩) (fun _ h => nomatch h) dX2_refused_57
      · skip
        refine lv_if_eq (tgt := 56) hx hb dX2_refused_35 (by decide) (fun c35 => ?_) (fun c35 => absurd c35 (by decide))
        refine lv_iconst (v := 2) hx hb dX2_refused_56 (by decide) ?_
        exact W.iret (v := 2) hx hb hr (fun t ht _ => ⟨_, rfl, Or.inr (Or.inl ⟨fun h => h.elim c18 c25, fun h => h32 h.1, rfl⟩), ht⟩) (fun _ h => nomatch h) dX2_refused_57
    · skip
      refine lv_iconst (v := 1) hx hb dX2_refused_28 (by decide) ?_
      exact W.iret (v := 1) hx hb hr (fun t ht _ => ⟨_, rfl, Or.inl ⟨Or.inr c25, rfl⟩, ht⟩) (fun _ h => nomatch h) dX2_refused_29
set_option maxHeartbeats 4000000 in
set_option maxRecDepth 100000 in
theorem c_X2_fresh (l : Launch) (D : va_G) (ci : Nat → ClassId) (ad : Nat → Nat) (z : Nat) (F : va_W) (th : Int32) (hd : Nat → Int32) (mk : Nat → Int32) (sz : Nat → Int32) (ce : Nat → Int64) (as : Nat → Int64) (np : Nat) (kd : Nat → Int32) (pu : Nat → Int64) (hex : ∃ t, t < 9 ∧ ∀ h, h < 8 → ¬ hd h = nI t) : Met l yX2_fresh wsX2_fresh ({ frames := 0, cells := 0, slots := 0, locals := 0 }) (va_Pc [.ref (ad 30)] (fun U => WD D ci ad z (wM ci ad th hd mk sz ce as np kd pu ++ F) U)) (vp_Si (fun r => ∃ t, t < 9 ∧ r = nI t ∧ ∀ h, h < 8 → ¬ hd h = nI t)) 0 0 (fun _ => False) := by
  refine Met.ofW (cc := cX2_fresh) (maxL := 5) (ret := (some .int)) (by decide) rfl ?_
  intro p e s m args below meth c s₁ B hml hv
  obtain ⟨rfl, hP, hD, hK, hE⟩ := hv
  have hx := B.exec
  have hb := B.bytes
  have hr := B.returns
  have hts := atoms_spec (ws := wsX2_fresh) B.pre
  have hown : s.vm.findClass RX2 = some m.cls := findClass_of_methodNamed B.named
  have hlocks := B.notSynchronized
  have hS : va_S (LA z) s.heap s.heap [] := va_S.rf
  have hin2 : ∀ w ∈ wsX20, w ∈ wsX2_fresh := by decide +kernel
  have hl := lv_entry ([.ref (ad 30)]) (n := 5) (Nat.le_of_ble_eq_true rfl)
  rw [lg_entry_eq]
  generalize (lg_sl ([.ref (ad 30)]) ++ List.replicate (5 - (lg_sl ([.ref (ad 30)])).length) Slot.unset).toArray = ls at hl ⊢
  have hl : lv_has ls 5 [(0, .ref (ad 30))] := hl
  refine lv_iconst (v := -1) hx hb dX2_fresh_0 (by decide) ?_
  refine lv_istore_n (lv' := [(1, .int (-1)), (0, .ref (ad 30))]) hx hb dX2_fresh_1 rfl hl (by decide) rfl (fun ls hl => ?_)
  refine lv_bipush (v := 8) hx hb dX2_fresh_2 (by decide) ?_
  refine rw_topi (y := dn (9 - 0)) (by decide) ?_
  refine lv_istore_n (lv' := [(2, .int (dn (9 - 0))), (1, .int (-1)), (0, .ref (ad 30))]) hx hb dX2_fresh_4 rfl hl (by decide) rfl (fun ls hl => ?_)
  have loop5 : ∀ (d5 : Nat) (i : Nat) (c1 : Int32) (hd5 : 9 + 1 ≤ i + d5) (hi : i ≤ 9) (hfo : frI hd i c1) (ls : Array Slot) (hl : lv_has ls 5 [(2, .int (dn (9 - i))), (1, .int c1), (0, .ref (ad 30))]), W p l e ({ frames := 0, cells := 0, slots := 0, locals := 0 } : Room) s m ([.ref (ad 30)] : List Value).toArray below meth c s.heap [] 0 0 (MQ below (vp_Si (fun r => ∃ t, t < 9 ∧ r = nI t ∧ ∀ h, h < 8 → ¬ hd h = nI t)) ([.ref (ad 30)] : List Value).toArray s 0 0 (fun _ => False)) (F0 m 5 ls []) := by
    intro d5
    induction d5 with
    | zero => intro i c1 hd5 hi hfo ls hl; exact absurd hd5 (by omega)
    | succ d5 ih5 =>
      intro i c1 hd5 hi hfo ls hl
      refine lv_iload_n hx hb dX2_fresh_5 rfl (lv_at hl 0 rfl) ?_
      refine lv_if_lt (tgt := 64) hx hb dX2_fresh_6 (by decide) (fun c6 => ?_) (fun c6 => ?_)
      · skip
        have hi9 : i = 9 := by have := dn_neg (k := 9 - i) (by omega) c6; omega
        refine lv_iload_n hx hb dX2_fresh_64 rfl (lv_at hl 1 rfl) ?_
        exact W.iret (v := c1) hx hb hr (fun t ht _ => ⟨_, rfl, hfo.elim (fun ⟨t, h1, h2, h3⟩ => ⟨t, h1, h2, h3⟩) (fun q => by obtain ⟨t, h1, h2⟩ := hex; obtain ⟨h, h3, h4⟩ := q.2 t (by omega) h1; exact absurd h4 (h2 h h3)), ht⟩) (fun _ h => nomatch h) dX2_fresh_65
      · skip
        have hi9 : i < 9 := by have := dn_pos (k := 9 - i) (by omega) c6; omega
        have edn : dn (9 - i) = nI (8 - i) := dn_at hi9
        refine lv_iconst (v := 1) hx hb dX2_fresh_9 (by decide) ?_
        refine lv_istore_n (lv' := [(3, .int 1), (2, .int (dn (9 - i))), (1, .int c1), (0, .ref (ad 30))]) hx hb dX2_fresh_10 rfl hl (by decide) rfl (fun ls hl => ?_)
        refine lv_iconst (v := 0) hx hb dX2_fresh_11 (by decide) ?_
        refine lv_istore (lv' := [(4, .int 0), (3, .int 1), (2, .int (dn (9 - i))), (1, .int c1), (0, .ref (ad 30))]) hx hb dX2_fresh_12 hl (by decide) rfl (fun ls hl => ?_)
        have loop14 : ∀ (d14 : Nat) (q : Nat) (b1 : Int32) (hd14 : 8 + 1 ≤ q + d14) (hq : q ≤ 8) (hb1 : (b1 = 1 ∧ ∀ h', h' < q → ¬ hd h' = nI (8 - i)) ∨ (b1 = 0 ∧ ∃ h, h < 8 ∧ hd h = nI (8 - i))) (ls : Array Slot) (hl : lv_has ls 5 [(4, .int (nI q)), (3, .int b1), (2, .int (dn (9 - i))), (1, .int c1), (0, .ref (ad 30))]), W p l e ({ frames := 0, cells := 0, slots := 0, locals := 0 } : Room) s m ([.ref (ad 30)] : List Value).toArray below meth c s.heap [] 0 0 (MQ below (vp_Si (fun r => ∃ t, t < 9 ∧ r = nI t ∧ ∀ h, h < 8 → ¬ hd h = nI t)) ([.ref (ad 30)] : List Value).toArray s 0 0 (fun _ => False)) (F0 m 14 ls []) := by
          intro d14
          induction d14 with
          | zero => intro q b1 hd14 hq hb1 ls hl; exact absurd hd14 (by omega)
          | succ d14 ih14 =>
            intro q b1 hd14 hq hb1 ls hl
            refine lv_iload hx hb dX2_fresh_14 (lv_at hl 0 rfl) ?_
            refine lv_bipush (v := 8) hx hb dX2_fresh_16 (by decide) ?_
            refine lv_icmp_ge (tgt := 48) hx hb dX2_fresh_18 (by decide) (fun c18 => ?_) (fun c18 => ?_)
            · skip
              have hq8 : q = 8 := by have := nI_ge_of (a := q) (b := 8) c18 (by omega) (by omega); omega
              refine lv_iload_n hx hb dX2_fresh_48 rfl (lv_at hl 1 rfl) ?_
              refine lv_if_eq (tgt := 56) hx hb dX2_fresh_49 (by decide) (fun c49 => ?_) (fun c49 => ?_)
              · skip
                refine lv_iload_n hx hb dX2_fresh_56 rfl (lv_at hl 3 rfl) ?_
                refine lv_istore_n (lv' := [(1, .int c1), (4, .int (nI q)), (3, .int b1), (2, .int (dn (9 - i))), (0, .ref (ad 30))]) hx hb dX2_fresh_57 rfl hl (by decide) rfl (fun ls hl => ?_)
                refine lv_iinc (v := (dn (9 - (i + 1)))) (lv' := [(2, .int (dn (9 - (i + 1)))), (1, .int c1), (4, .int (nI q)), (3, .int b1), (0, .ref (ad 30))]) hx hb dX2_fresh_58 hl (k := 3) rfl (by rw [show 9 - i = (9 - (i + 1)) + 1 by omega]; exact dn_dec _) (by decide) rfl (fun ls hl => ?_)
                refine lv_goto (tgt := 5) hx hb dX2_fresh_61 (by decide) ?_
                exact ih5 (i + 1) c1 (by omega) (by omega) (frI_no hi9 hfo (hb1.elim (fun q => absurd (q.1.symm.trans c49) (by decide)) (fun q => q.2))) ls (lv_sub hl [0, 1, 4] rfl)
              · skip
                refine lv_iload_n hx hb dX2_fresh_52 rfl (lv_at hl 2 rfl) ?_
                refine lv_goto (tgt := 57) hx hb dX2_fresh_53 (by decide) ?_
                refine lv_istore_n (lv' := [(1, .int (dn (9 - i))), (4, .int (nI q)), (3, .int b1), (2, .int (dn (9 - i))), (0, .ref (ad 30))]) hx hb dX2_fresh_57 rfl hl (by decide) rfl (fun ls hl => ?_)
                refine lv_iinc (v := (dn (9 - (i + 1)))) (lv' := [(2, .int (dn (9 - (i + 1)))), (1, .int (dn (9 - i))), (4, .int (nI q)), (3, .int b1), (0, .ref (ad 30))]) hx hb dX2_fresh_58 hl (k := 3) rfl (by rw [show 9 - i = (9 - (i + 1)) + 1 by omega]; exact dn_dec _) (by decide) rfl (fun ls hl => ?_)
                refine lv_goto (tgt := 5) hx hb dX2_fresh_61 (by decide) ?_
                exact ih5 (i + 1) (dn (9 - i)) (by omega) (by omega) (Or.inl ⟨8 - i, by omega, edn, fun h hh => (hb1.elim (fun q => q.2) (fun q => absurd q.1 c49)) h (by omega)⟩) ls (lv_sub hl [0, 1, 4] rfl)
            · skip
              have hq8 : q < 8 := nI_lt_of (a := q) (b := 8) c18 (by omega) (by omega)
              refine lv_iload_n hx hb dX2_fresh_21 rfl (lv_at hl 1 rfl) ?_
              refine lv_if_eq (tgt := 40) hx hb dX2_fresh_22 (by decide) (fun c22 => ?_) (fun c22 => ?_)
              · skip
                refine lv_iconst (v := 0) hx hb dX2_fresh_40 (by decide) ?_
                refine lv_istore_n (lv' := [(3, .int 0), (4, .int (nI q)), (2, .int (dn (9 - i))), (1, .int c1), (0, .ref (ad 30))]) hx hb dX2_fresh_41 rfl hl (by decide) rfl (fun ls hl => ?_)
                refine lv_iinc (v := (nI (q + 1))) (lv' := [(4, .int (nI (q + 1))), (3, .int 0), (2, .int (dn (9 - i))), (1, .int c1), (0, .ref (ad 30))]) hx hb dX2_fresh_42 hl (k := 1) rfl (nI_1 _) (by decide) rfl (fun ls hl => ?_)
                refine lv_goto (tgt := 14) hx hb dX2_fresh_45 (by decide) ?_
                exact ih14 (q + 1) 0 (by omega) (by omega) (Or.inr ⟨rfl, hb1.elim (fun q => absurd (q.1.symm.trans c22) (by decide)) (fun q => q.2)⟩) ls (lv_sub hl [0, 1, 2, 3, 4] rfl)
              · skip
                refine lv_aload_n hx hb dX2_fresh_25 rfl (lv_at hl 4 rfl) ?_
                refine va_get (D := D) (ci := 2) (C := RX2) (T := TX2) (N := 9) hx hb hts hin2 hown hK hP 0 rfl rfl 1 (by decide) (hts (.fieldLink RX2 9 "DutyRotaModel" "held" "[I") (by decide +kernel)) (fun _ h9 => h9) rfl dX2_fresh_26 ?_
                refine lv_iload hx hb dX2_fresh_29 (lv_at hl 0 rfl) ?_
                refine rw_ild hx hb hK hP 1 0 rfl rfl (j := q) (rfl) (by omega) (by decide) dX2_fresh_31 ?_
                refine lv_iload_n hx hb dX2_fresh_32 rfl (lv_at hl 2 rfl) ?_
                refine lv_icmp_eq (tgt := 40) hx hb dX2_fresh_33 (by decide) (fun c33 => ?_) (fun c33 => ?_)
                · skip
                  refine lv_iconst (v := 0) hx hb dX2_fresh_40 (by decide) ?_
                  refine lv_istore_n (lv' := [(3, .int 0), (4, .int (nI q)), (2, .int (dn (9 - i))), (1, .int c1), (0, .ref (ad 30))]) hx hb dX2_fresh_41 rfl hl (by decide) rfl (fun ls hl => ?_)
                  refine lv_iinc (v := (nI (q + 1))) (lv' := [(4, .int (nI (q + 1))), (3, .int 0), (2, .int (dn (9 - i))), (1, .int c1), (0, .ref (ad 30))]) hx hb dX2_fresh_42 hl (k := 1) rfl (nI_1 _) (by decide) rfl (fun ls hl => ?_)
                  refine lv_goto (tgt := 14) hx hb dX2_fresh_45 (by decide) ?_
                  exact ih14 (q + 1) 0 (by omega) (by omega) (Or.inr ⟨rfl, q, hq8, c33.trans edn⟩) ls (lv_sub hl [0, 1, 2, 3, 4] rfl)
                · skip
                  refine lv_iconst (v := 1) hx hb dX2_fresh_36 (by decide) ?_
                  refine lv_goto (tgt := 41) hx hb dX2_fresh_37 (by decide) ?_
                  refine lv_istore_n (lv' := [(3, .int 1), (4, .int (nI q)), (2, .int (dn (9 - i))), (1, .int c1), (0, .ref (ad 30))]) hx hb dX2_fresh_41 rfl hl (by decide) rfl (fun ls hl => ?_)
                  refine lv_iinc (v := (nI (q + 1))) (lv' := [(4, .int (nI (q + 1))), (3, .int 1), (2, .int (dn (9 - i))), (1, .int c1), (0, .ref (ad 30))]) hx hb dX2_fresh_42 hl (k := 1) rfl (nI_1 _) (by decide) rfl (fun ls hl => ?_)
                  refine lv_goto (tgt := 14) hx hb dX2_fresh_45 (by decide) ?_
                  exact ih14 (q + 1) 1 (by omega) (by omega) (Or.inl ⟨rfl, lt_s (hb1.elim (fun q => q.2) (fun q => absurd q.1 c22)) (fun e => c33 (e.trans edn.symm))⟩) ls (lv_sub hl [0, 1, 2, 3, 4] rfl)
        exact loop14 (8 + 1) 0 1 (by omega) (by omega) (Or.inl ⟨rfl, fun h' h => absurd h (by omega)⟩) ls (lv_sub hl [0, 1, 2, 3, 4] rfl)
  exact loop5 (9 + 1) 0 (-1) (by omega) (by omega) (Or.inr ⟨rfl, fun t h1 h2 => absurd h1 (by omega)⟩) ls (lv_sub hl [0, 1, 2] rfl)
set_option maxHeartbeats 4000000 in
set_option maxRecDepth 100000 in
theorem c_X2_copies (l : Launch) (D : va_G) (ci : Nat → ClassId) (ad : Nat → Nat) (z : Nat) (F : va_W) (th : Int32) (hd : Nat → Int32) (mk : Nat → Int32) (sz : Nat → Int32) (ce : Nat → Int64) (as : Nat → Int64) (np : Nat) (kd : Nat → Int32) (pu : Nat → Int64) (Hg Z : Nat → Nat) (x i y j k : Int32) (a b : Nat) (hH : hOK hd Hg) (hZ : zOK sz Z) (ha : a < 8) (ea : x = nI a) (hb8 : b < 8) (eb : y = nI b) (hN : np ≤ 60) (hMK : ∀ t, t < 9 → ¬ mk t < 0) (hRO : ∀ h, h < 8 → mV mk (Hg h) ≤ 2 → ∀ q, q < sV mk Z (Hg h) → okV np (rV ce (Hg h) q)) : Met l yX2_copies wsX2_copies ({ frames := 3, cells := 0, slots := 0, locals := 71 }) (va_Pc [.ref (ad 30), .int x, .int i, .int y, .int j, .int k] (fun U => WD D ci ad z (wM ci ad th hd mk sz ce as np kd pu ++ F) U)) (va_Qi (fun (r : Int32) (u : (Nat → Int64) × (Nat → Int64)) => ∃ f, rowIs ce (Hg b) f u.1 ∧ cpV (mV mk (Hg a)) (mV mk (Hg b)) (sV mk Z (Hg a)) (sV mk Z (Hg b)) (rV ce (Hg a)) (rV ce (Hg b)) kd np i j k r f) (fun u t => va_P D vwCl (wM ci ad th hd mk sz u.1 u.2 np kd pu ++ F) t.heap ∧ va_D (LA z) (wM ci ad th hd mk sz u.1 u.2 np kd pu ++ F)) (LA z)) 0 0 (LA z) := by
  refine Met.ofW (cc := cX2_copies) (maxL := 11) (ret := (some .int)) (by decide) rfl ?_
  intro p e s m args below meth c s₁ B hml hv
  obtain ⟨rfl, hP, hD, hK, hE⟩ := hv
  have hx := B.exec
  have hb := B.bytes
  have hr := B.returns
  have hts := atoms_spec (ws := wsX2_copies) B.pre
  have hown : s.vm.findClass RX2 = some m.cls := findClass_of_methodNamed B.named
  have hlocks := B.notSynchronized
  have hS : va_S (LA z) s.heap s.heap [] := va_S.rf
  have hin2 : ∀ w ∈ wsX20, w ∈ wsX2_copies := by decide +kernel
  have hl := lv_entry ([.ref (ad 30), .int x, .int i, .int y, .int j, .int k]) (n := 11) (Nat.le_of_ble_eq_true rfl)
  rw [lg_entry_eq]
  generalize (lg_sl ([.ref (ad 30), .int x, .int i, .int y, .int j, .int k]) ++ List.replicate (11 - (lg_sl ([.ref (ad 30), .int x, .int i, .int y, .int j, .int k])).length) Slot.unset).toArray = ls at hl ⊢
  have hl : lv_has ls 11 [(0, .ref (ad 30)), (1, .int x), (2, .int i), (3, .int y), (4, .int j), (5, .int k)] := hl
  refine lv_aload_n hx hb dX2_copies_0 rfl (lv_at hl 0 rfl) ?_
  refine lv_iload_n hx hb dX2_copies_1 rfl (lv_at hl 1 rfl) ?_
  refine lv_iload_n hx hb dX2_copies_2 rfl (lv_at hl 2 rfl) ?_
  refine lv_iload_n hx hb dX2_copies_3 rfl (lv_at hl 3 rfl) ?_
  refine lv_iload hx hb dX2_copies_4 (lv_at hl 4 rfl) ?_
  refine lv_iload hx hb dX2_copies_6 (lv_at hl 5 rfl) ?_
  refine vp_callSi (W.runV (As := [.int x, .int i, .int y, .int j, .int k]) (rest := []) ⟨hx, hb, hml, hown, hts⟩ (c_X2_refused l D ci ad z F th hd mk sz ce as np kd pu Hg Z x i y j k a b hH hZ ha ea hb8 eb) (cwV 5 hts gX2_copies_X2_refused rfl rfl rfl (by decide +kernel) ⟨Nat.le_of_ble_eq_true rfl, Nat.le_of_ble_eq_true rfl⟩) ⟨WD.fb, (va_recv hK hP (ci := 2) (q0 := 0) rfl rfl), fun U hU hW => ⟨rfl, WD.call hP hD hK hE hS hU hW⟩⟩ rfl rfl hl.1 rfl (lv_room (Nat.le_of_ble_eq_true rfl)) dX2_copies_8 ⟨Nat.le_of_ble_eq_true rfl, Nat.le_of_ble_eq_true rfl⟩) (fun r8 hw8 => ?_)
  have hSa : sV mk Z (Hg a) ≤ 40 := sV_40 hZ (hH a ha).1
  have hSb : sV mk Z (Hg b) ≤ 40 := sV_40 hZ (hH b hb8).1
  refine lv_istore (lv' := [(6, .int r8), (0, .ref (ad 30)), (1, .int x), (2, .int i), (3, .int y), (4, .int j), (5, .int k)]) hx hb dX2_copies_11 hl (by decide) rfl (fun ls hl => ?_)
  refine lv_iload hx hb dX2_copies_13 (lv_at hl 0 rfl) ?_
  refine lv_if_eq (tgt := 21) hx hb dX2_copies_15 (by decide) (fun c15 => ?_) (fun c15 => ?_)
  · skip
    obtain ⟨hn6, hal, X, Y, K, eX, eY, eK, hXK, hYK⟩ := rf_yes hSa hSb hw8 c15
    have hta := hd_9 hH ha (mV_n6 (fun e => hn6 (Or.inl e)))
    have htb := hd_9 hH hb8 (mV_n6 (fun e => hn6 (Or.inr e)))
    refine lv_aload_n hx hb dX2_copies_21 rfl (lv_at hl 1 rfl) ?_
    refine lv_iload_n hx hb dX2_copies_22 rfl (lv_at hl 4 rfl) ?_
    refine vp_callSi (W.runV (As := [.int y]) (rest := []) ⟨hx, hb, hml, hown, hts⟩ (c_X2_makeOf l D ci ad z F th hd mk sz ce as np kd pu Hg Z y b hH hZ hb8 eb) (cwV 1 hts gX2_copies_X2_makeOf rfl rfl rfl (by decide +kernel) ⟨Nat.le_of_ble_eq_true rfl, Nat.le_of_ble_eq_true rfl⟩) ⟨WD.fb, (va_recv hK hP (ci := 2) (q0 := 0) rfl rfl), fun U hU hW => ⟨rfl, WD.call hP hD hK hE hS hU hW⟩⟩ rfl rfl hl.1 rfl (lv_room (Nat.le_of_ble_eq_true rfl)) dX2_copies_23 ⟨Nat.le_of_ble_eq_true rfl, Nat.le_of_ble_eq_true rfl⟩) (fun r23 hw23 => ?_)
    subst hw23
    refine lv_istore (lv' := [(7, .int (mV mk (Hg b))), (6, .int r8), (0, .ref (ad 30)), (1, .int x), (2, .int i), (3, .int y), (4, .int j), (5, .int k)]) hx hb dX2_copies_26 hl (by decide) rfl (fun ls hl => ?_)
    refine lv_bipush (v := 40) hx hb dX2_copies_28 (by decide) ?_
    refine lv_aload_n hx hb dX2_copies_30 rfl (lv_at hl 2 rfl) ?_
    refine va_get (D := D) (ci := 2) (C := RX2) (T := TX2) (N := 9) hx hb hts hin2 hown hK hP 0 rfl rfl 1 (by decide) (hts (.fieldLink RX2 9 "DutyRotaModel" "held" "[I") (by decide +kernel)) (fun _ h9 => h9) rfl dX2_copies_31 ?_
    refine lv_iload_n hx hb dX2_copies_34 rfl (lv_at hl 3 rfl) ?_
    refine rw_ild hx hb hK hP 1 0 rfl rfl (j := a) (ea) (ha) (by decide) dX2_copies_35 ?_
    refine rw_topi (y := (nI (Hg a))) (hta.2) ?_
    refine lv_imul hx hb dX2_copies_36 ?_
    refine rw_topi (y := (nI (40 * Hg a))) (ix40' _) ?_
    refine lv_iload_n hx hb dX2_copies_37 rfl (lv_at hl 4 rfl) ?_
    refine lv_iadd hx hb dX2_copies_38 ?_
    refine rw_topi (y := (nI (40 * Hg a + X))) (by rw [eX, nI_add]) ?_
    refine lv_istore (lv' := [(8, .int (nI (40 * Hg a + X))), (7, .int (mV mk (Hg b))), (6, .int r8), (0, .ref (ad 30)), (1, .int x), (2, .int i), (3, .int y), (4, .int j), (5, .int k)]) hx hb dX2_copies_39 hl (by decide) rfl (fun ls hl => ?_)
    refine lv_bipush (v := 40) hx hb dX2_copies_41 (by decide) ?_
    refine lv_aload_n hx hb dX2_copies_43 rfl (lv_at hl 3 rfl) ?_
    refine va_get (D := D) (ci := 2) (C := RX2) (T := TX2) (N := 9) hx hb hts hin2 hown hK hP 0 rfl rfl 1 (by decide) (hts (.fieldLink RX2 9 "DutyRotaModel" "held" "[I") (by decide +kernel)) (fun _ h9 => h9) rfl dX2_copies_44 ?_
    refine lv_iload_n hx hb dX2_copies_47 rfl (lv_at hl 6 rfl) ?_
    refine rw_ild hx hb hK hP 1 0 rfl rfl (j := b) (eb) (hb8) (by decide) dX2_copies_48 ?_
    refine rw_topi (y := (nI (Hg b))) (htb.2) ?_
    refine lv_imul hx hb dX2_copies_49 ?_
    refine rw_topi (y := (nI (40 * Hg b))) (ix40' _) ?_
    refine lv_iload hx hb dX2_copies_50 (lv_at hl 7 rfl) ?_
    refine lv_iadd hx hb dX2_copies_52 ?_
    refine rw_topi (y := (nI (40 * Hg b + Y))) (by rw [eY, nI_add]) ?_
    refine lv_istore (lv' := [(9, .int (nI (40 * Hg b + Y))), (8, .int (nI (40 * Hg a + X))), (7, .int (mV mk (Hg b))), (6, .int r8), (0, .ref (ad 30)), (1, .int x), (2, .int i), (3, .int y), (4, .int j), (5, .int k)]) hx hb dX2_copies_53 hl (by decide) rfl (fun ls hl => ?_)
    refine lv_iconst (v := 0) hx hb dX2_copies_55 (by decide) ?_
    refine lv_istore (lv' := [(10, .int 0), (9, .int (nI (40 * Hg b + Y))), (8, .int (nI (40 * Hg a + X))), (7, .int (mV mk (Hg b))), (6, .int r8), (0, .ref (ad 30)), (1, .int x), (2, .int i), (3, .int y), (4, .int j), (5, .int k)]) hx hb dX2_copies_56 hl (by decide) rfl (fun ls hl => ?_)
    have loop58 : ∀ (d58 : Nat) (q : Nat) (as1 : Nat → Int64) (hd58 : K + 1 ≤ q + d58) (hq : q ≤ K) (has : ∀ p, p < q → as1 p = rV ce (Hg a) (X + p)) (H : Heap) (locs : List Loc) (hP : va_P D vwCl (wM ci ad th hd mk sz ce as1 np kd pu ++ F) H) (hD : va_D (LA z) (wM ci ad th hd mk sz ce as1 np kd pu ++ F)) (hS : va_S (LA z) s.heap H locs) (ls : Array Slot) (hl : lv_has ls 11 [(10, .int (nI q)), (9, .int (nI (40 * Hg b + Y))), (8, .int (nI (40 * Hg a + X))), (7, .int (mV mk (Hg b))), (6, .int r8), (0, .ref (ad 30)), (1, .int x), (2, .int i), (3, .int y), (4, .int j), (5, .int k)]), W p l e ({ frames := 3, cells := 0, slots := 0, locals := 71 } : Room) s m ([.ref (ad 30), .int x, .int i, .int y, .int j, .int k] : List Value).toArray below meth c H locs 0 0 (MQ below (va_Qi (fun (r : Int32) (u : (Nat → Int64) × (Nat → Int64)) => ∃ f, rowIs ce (Hg b) f u.1 ∧ cpV (mV mk (Hg a)) (mV mk (Hg b)) (sV mk Z (Hg a)) (sV mk Z (Hg b)) (rV ce (Hg a)) (rV ce (Hg b)) kd np i j k r f) (fun u t => va_P D vwCl (wM ci ad th hd mk sz u.1 u.2 np kd pu ++ F) t.heap ∧ va_D (LA z) (wM ci ad th hd mk sz u.1 u.2 np kd pu ++ F)) (LA z)) ([.ref (ad 30), .int x, .int i, .int y, .int j, .int k] : List Value).toArray s 0 0 (LA z)) (F0 m 58 ls []) := by
      intro d58
      induction d58 with
      | zero => intro q as1 hd58 hq has H locs hP hD hS ls hl; exact absurd hd58 (by omega)
      | succ d58 ih58 =>
        intro q as1 hd58 hq has H locs hP hD hS ls hl
        refine lv_iload hx hb dX2_copies_58 (lv_at hl 0 rfl) ?_
        refine lv_iload hx hb dX2_copies_60 (lv_at hl 10 rfl) ?_
        refine lv_icmp_ge (tgt := 88) hx hb dX2_copies_62 (by decide) (fun c62 => ?_) (fun c62 => ?_)
        · skip
          have hqK : q = K := by rw [eK] at c62; have := nI_ge_of c62 (by omega) (by omega); omega
          refine lv_iconst (v := 0) hx hb dX2_copies_88 (by decide) ?_
          refine lv_istore (lv' := [(10, .int 0), (9, .int (nI (40 * Hg b + Y))), (8, .int (nI (40 * Hg a + X))), (7, .int (mV mk (Hg b))), (6, .int r8), (0, .ref (ad 30)), (1, .int x), (2, .int i), (3, .int y), (4, .int j), (5, .int k)]) hx hb dX2_copies_89 hl (by decide) rfl (fun ls hl => ?_)
          have loop91 : ∀ (d91 : Nat) (g : Nat) (ce1 : Nat → Int64) (hd91 : K + 1 ≤ g + d91) (hg : g ≤ K) (htk : ∀ p, p < g → ¬ noTake (mV mk (Hg b)) kd np (rV ce (Hg a) (X + p))) (hce : rowIs ce (Hg b) (va_cpy (rV ce (Hg a)) (rV ce (Hg b)) X Y g) ce1) (H : Heap) (locs : List Loc) (hP : va_P D vwCl (wM ci ad th hd mk sz ce1 as1 np kd pu ++ F) H) (hD : va_D (LA z) (wM ci ad th hd mk sz ce1 as1 np kd pu ++ F)) (hS : va_S (LA z) s.heap H locs) (ls : Array Slot) (hl : lv_has ls 11 [(10, .int (nI g)), (9, .int (nI (40 * Hg b + Y))), (8, .int (nI (40 * Hg a + X))), (7, .int (mV mk (Hg b))), (6, .int r8), (0, .ref (ad 30)), (1, .int x), (2, .int i), (3, .int y), (4, .int j), (5, .int k)]), W p l e ({ frames := 3, cells := 0, slots := 0, locals := 71 } : Room) s m ([.ref (ad 30), .int x, .int i, .int y, .int j, .int k] : List Value).toArray below meth c H locs 0 0 (MQ below (va_Qi (fun (r : Int32) (u : (Nat → Int64) × (Nat → Int64)) => ∃ f, rowIs ce (Hg b) f u.1 ∧ cpV (mV mk (Hg a)) (mV mk (Hg b)) (sV mk Z (Hg a)) (sV mk Z (Hg b)) (rV ce (Hg a)) (rV ce (Hg b)) kd np i j k r f) (fun u t => va_P D vwCl (wM ci ad th hd mk sz u.1 u.2 np kd pu ++ F) t.heap ∧ va_D (LA z) (wM ci ad th hd mk sz u.1 u.2 np kd pu ++ F)) (LA z)) ([.ref (ad 30), .int x, .int i, .int y, .int j, .int k] : List Value).toArray s 0 0 (LA z)) (F0 m 91 ls []) := by
            intro d91
            induction d91 with
            | zero => intro g ce1 hd91 hg htk hce H locs hP hD hS ls hl; exact absurd hd91 (by omega)
            | succ d91 ih91 =>
              intro g ce1 hd91 hg htk hce H locs hP hD hS ls hl
              refine lv_iload hx hb dX2_copies_91 (lv_at hl 0 rfl) ?_
              refine lv_iload hx hb dX2_copies_93 (lv_at hl 10 rfl) ?_
              refine lv_icmp_ge (tgt := 139) hx hb dX2_copies_95 (by decide) (fun c95 => ?_) (fun c95 => ?_)
              · skip
                have hpK : g = K := by rw [eK] at c95; have := nI_ge_of c95 (by omega) (by omega); omega
                refine lv_iconst (v := 0) hx hb dX2_copies_139 (by decide) ?_
                exact W.iret (v := 0) hx hb hr (fun t ht _ => ⟨⟨_, (ce1, as1), rfl, ⟨_, hce, Or.inr (Or.inr (Or.inr ⟨hn6, hal, X, Y, K, g, eX, eY, eK, hXK, hYK, hg, htk, rfl, Or.inl ⟨hpK, rfl⟩⟩))⟩, by rw [ht]; exact hP, hD⟩, hS.F ht⟩) hS.2.2 dX2_copies_140
              · skip
                have hpK : g < K := by rw [eK] at c95; exact nI_lt_of c95 (by omega) (by omega)
                refine lv_aload_n hx hb dX2_copies_98 rfl (lv_at hl 5 rfl) ?_
                refine lv_iload hx hb dX2_copies_99 (lv_at hl 3 rfl) ?_
                refine lv_aload_n hx hb dX2_copies_101 rfl (lv_at hl 5 rfl) ?_
                refine va_get (D := D) (ci := 2) (C := RX2) (T := TX2) (N := 9) hx hb hts hin2 hown hK hP 0 rfl rfl 5 (by decide) (hts (.fieldLink RX2 23 "DutyRotaModel" "aside" "[J") (by decide +kernel)) (fun _ h9 => h9) rfl dX2_copies_102 ?_
                refine lv_iload hx hb dX2_copies_105 (lv_at hl 0 rfl) ?_
                refine rw_lld hx hb hK hP 5 1 rfl rfl (j := g) (rfl) (by omega) (by decide) dX2_copies_107 ?_
                refine rw_topl (y := (rV ce (Hg a) (X + g))) (has g (by omega)) ?_
                refine vp_callSi (W.runV (As := [.int (mV mk (Hg b)), .long (rV ce (Hg a) (X + g))]) (rest := []) ⟨hx, hb, hml, hown, hts⟩ (c_X2_mayStand l D ci ad z F th hd mk sz ce1 as1 np kd pu (mV mk (Hg b)) (rV ce (Hg a) (X + g)) hN (mV_pos hMK (hH b hb8).1) (fun h => hRO a ha (al_ro hal h) _ (by omega))) (cwV 2 hts gX2_copies_X2_mayStand rfl rfl rfl (by decide +kernel) ⟨Nat.le_of_ble_eq_true rfl, Nat.le_of_ble_eq_true rfl⟩) ⟨WD.fb, (va_recv hK hP (ci := 2) (q0 := 0) rfl rfl), fun U hU hW => ⟨rfl, WD.call hP hD hK hE hS hU hW⟩⟩ rfl rfl hl.1 rfl (lv_room (Nat.le_of_ble_eq_true rfl)) dX2_copies_108 ⟨Nat.le_of_ble_eq_true rfl, Nat.le_of_ble_eq_true rfl⟩) (fun r108 hw108 => ?_)
                rcases hw108 with ⟨rfl, h108⟩ | ⟨rfl, h108⟩
                · skip
                  refine lv_if_ne (tgt := 116) hx hb dX2_copies_111 (by decide) (fun c111 => ?_) (fun c111 => absurd c111 (by decide))
                  refine lv_aload_n hx hb dX2_copies_116 rfl (lv_at hl 5 rfl) ?_
                  refine va_get (D := D) (ci := 2) (C := RX2) (T := TX2) (N := 9) hx hb hts hin2 hown hK hP 0 rfl rfl 4 (by decide) (hts (.fieldLink RX2 19 "DutyRotaModel" "cells" "[J") (by decide +kernel)) (fun _ h9 => h9) rfl dX2_copies_117 ?_
                  refine lv_iload hx hb dX2_copies_120 (lv_at hl 1 rfl) ?_
                  refine lv_iload hx hb dX2_copies_122 (lv_at hl 0 rfl) ?_
                  refine lv_iadd hx hb dX2_copies_124 ?_
                  refine rw_topi (y := (nI (40 * Hg b + Y + g))) (nI_add _ _) ?_
                  refine lv_aload_n hx hb dX2_copies_125 rfl (lv_at hl 5 rfl) ?_
                  refine va_get (D := D) (ci := 2) (C := RX2) (T := TX2) (N := 9) hx hb hts hin2 hown hK hP 0 rfl rfl 5 (by decide) (hts (.fieldLink RX2 23 "DutyRotaModel" "aside" "[J") (by decide +kernel)) (fun _ h9 => h9) rfl dX2_copies_126 ?_
                  refine lv_iload hx hb dX2_copies_129 (lv_at hl 0 rfl) ?_
                  refine rw_lld hx hb hK hP 5 1 rfl rfl (j := g) (rfl) (by omega) (by decide) dX2_copies_131 ?_
                  refine rw_topl (y := (rV ce (Hg a) (X + g))) (has g (by omega)) ?_
                  refine rw_lst hx hb hK hP hD hS 4 1 rfl rfl (j := (40 * Hg b + (Y + g))) (by rw [Nat.add_assoc]) (by omega) (by decide) (ws' := wM ci ad th hd mk sz (vp_updL ce1 (40 * Hg b + (Y + g)) (rV ce (Hg a) (X + g))) as1 np kd pu ++ F) rfl dX2_copies_132 (fun H locs hP hD hS => ?_)
                  refine lv_iinc (v := (nI (g + 1))) (lv' := [(10, .int (nI (g + 1))), (9, .int (nI (40 * Hg b + Y))), (8, .int (nI (40 * Hg a + X))), (7, .int (mV mk (Hg b))), (6, .int r8), (0, .ref (ad 30)), (1, .int x), (2, .int i), (3, .int y), (4, .int j), (5, .int k)]) hx hb dX2_copies_133 hl (k := 0) rfl (nI_1 _) (by decide) rfl (fun ls hl => ?_)
                  refine lv_goto (tgt := 91) hx hb dX2_copies_136 (by decide) ?_
                  exact ih91 (g + 1) (vp_updL ce1 (40 * Hg b + (Y + g)) (rV ce (Hg a) (X + g))) (by omega) (by omega) (lt_s htk h108) (by rw [← cpy_s1]; exact rowIs_up hce (by omega) _) H locs hP hD hS ls (lv_sub hl [0, 1, 2, 3, 4, 5, 6, 7, 8, 9, 10] rfl)
                · skip
                  refine lv_if_ne (tgt := 116) hx hb dX2_copies_111 (by decide) (fun c111 => absurd c111 (by decide)) (fun c111 => ?_)
                  refine lv_iconst (v := 2) hx hb dX2_copies_114 (by decide) ?_
                  exact W.iret (v := 2) hx hb hr (fun t ht _ => ⟨⟨_, (ce1, as1), rfl, ⟨_, hce, Or.inr (Or.inr (Or.inr ⟨hn6, hal, X, Y, K, g, eX, eY, eK, hXK, hYK, hg, htk, rfl, Or.inr ⟨hpK, h108, rfl⟩⟩))⟩, by rw [ht]; exact hP, hD⟩, hS.F ht⟩) hS.2.2 dX2_copies_115
          exact loop91 (K + 1) 0 ce (by omega) (by omega) (fun p h => absurd h (by omega)) (by rw [cpy_01]; exact rowIs_rf _ _) H locs hP hD hS ls (lv_sub hl [0, 1, 2, 3, 4, 5, 6, 7, 8, 9, 10] rfl)
        · skip
          have hqK : q < K := by rw [eK] at c62; exact nI_lt_of c62 (by omega) (by omega)
          refine lv_aload_n hx hb dX2_copies_65 rfl (lv_at hl 5 rfl) ?_
          refine va_get (D := D) (ci := 2) (C := RX2) (T := TX2) (N := 9) hx hb hts hin2 hown hK hP 0 rfl rfl 5 (by decide) (hts (.fieldLink RX2 23 "DutyRotaModel" "aside" "[J") (by decide +kernel)) (fun _ h9 => h9) rfl dX2_copies_66 ?_
          refine lv_iload hx hb dX2_copies_69 (lv_at hl 0 rfl) ?_
          refine lv_aload_n hx hb dX2_copies_71 rfl (lv_at hl 5 rfl) ?_
          refine va_get (D := D) (ci := 2) (C := RX2) (T := TX2) (N := 9) hx hb hts hin2 hown hK hP 0 rfl rfl 4 (by decide) (hts (.fieldLink RX2 19 "DutyRotaModel" "cells" "[J") (by decide +kernel)) (fun _ h9 => h9) rfl dX2_copies_72 ?_
          refine lv_iload hx hb dX2_copies_75 (lv_at hl 2 rfl) ?_
          refine lv_iload hx hb dX2_copies_77 (lv_at hl 0 rfl) ?_
          refine lv_iadd hx hb dX2_copies_79 ?_
          refine rw_topi (y := (nI (40 * Hg a + X + q))) (nI_add _ _) ?_
          refine rw_lld hx hb hK hP 4 1 rfl rfl (j := (40 * Hg a + X + q)) (rfl) (by omega) (by decide) dX2_copies_80 ?_
          refine rw_lst hx hb hK hP hD hS 5 1 rfl rfl (j := q) (rfl) (by omega) (by decide) (ws' := wM ci ad th hd mk sz ce (vp_updL as1 q (ce (40 * Hg a + X + q))) np kd pu ++ F) rfl dX2_copies_81 (fun H locs hP hD hS => ?_)
          refine lv_iinc (v := (nI (q + 1))) (lv' := [(10, .int (nI (q + 1))), (9, .int (nI (40 * Hg b + Y))), (8, .int (nI (40 * Hg a + X))), (7, .int (mV mk (Hg b))), (6, .int r8), (0, .ref (ad 30)), (1, .int x), (2, .int i), (3, .int y), (4, .int j), (5, .int k)]) hx hb dX2_copies_82 hl (k := 0) rfl (nI_1 _) (by decide) rfl (fun ls hl => ?_)
          refine lv_goto (tgt := 58) hx hb dX2_copies_85 (by decide) ?_
          exact ih58 (q + 1) (vp_updL as1 q (ce (40 * Hg a + X + q))) (by omega) (by omega) (as_s has (by unfold rV; rw [Nat.add_assoc])) H locs hP hD hS ls (lv_sub hl [0, 1, 2, 3, 4, 5, 6, 7, 8, 9, 10] rfl)
    exact loop58 (K + 1) 0 as (by omega) (by omega) (fun p h => absurd h (by omega)) s.heap [] hP hD hS ls (lv_sub hl [0, 1, 2, 3, 4, 5, 6, 7, 8, 9, 10] rfl)
  · skip
    refine lv_iload hx hb dX2_copies_18 (lv_at hl 0 rfl) ?_
    exact W.iret (v := r8) hx hb hr (fun t ht _ => ⟨⟨_, (ce, as), rfl, ⟨_, rowIs_rf _ _, rf_no hw8 c15⟩, by rw [ht]; exact hP, hD⟩, hS.F ht⟩) hS.2.2 dX2_copies_20
