def hd0 : Nat → Int32 := (upd (upd (upd (upd (upd (upd (upd (upd (fun _ => 0) 0 (-1)) 1 (-1)) 2 (-1)) 3 (-1)) 4 (-1)) 5 (-1)) 6 (-1)) 7 (-1))
def adM (ad : Nat → Nat) (h : Nat) (q : Nat → Nat) : Nat → Nat := fun k => if k = 30 then h else if k = 31 then q 1 else if k = 32 then q 2 else if k = 33 then q 3 else if k = 34 then q 4 else if k = 35 then q 5 else if k = 36 then q 6 else if k = 37 then q 7 else ad k
set_option maxHeartbeats 1000000 in
set_option maxRecDepth 100000 in
theorem c_X2_init (l : Launch) (D : va_G) (ci : Nat → ClassId) (ad : Nat → Nat) (z : Nat) (F : va_W) (h : Nat) : Met l yX2_init wsX2_init ({ frames := 1, cells := 7, slots := 546, locals := 20 }) (va_Pc [.ref h] (fun U => WD D ci ad z ([(h, .inr (2, [.int 0, .null, .null, .null, .null, .null, .int 0, .null, .null]))] ++ F) U)) (va_Qv (fun (_ : Nat → Nat) => True) (fun q t => va_P D vwCl (wM ci (adM ad h q) 0 hd0 (fun _ => 0) (fun _ => 0) (fun _ => 0) (fun _ => 0) 0 (fun _ => 0) (fun _ => 0) ++ F) t.heap ∧ va_D (LA z) (wM ci (adM ad h q) 0 hd0 (fun _ => 0) (fun _ => 0) (fun _ => 0) (fun _ => 0) 0 (fun _ => 0) (fun _ => 0) ++ F)) (LA z)) 7 546 (LA z) := by
  refine Met.ofW (cc := cX2_init) (maxL := 1) (ret := none) (by decide) rfl ?_
  intro p e s m args below meth c s₁ B hml hv
  obtain ⟨rfl, hP, hD, hK, hE⟩ := hv
  have hx := B.exec
  have hb := B.bytes
  have hr := B.returns
  have hts := atoms_spec (ws := wsX2_init) B.pre
  have hown : s.vm.findClass RX2 = some m.cls := findClass_of_methodNamed B.named
  have hlocks := B.notSynchronized
  have hnm : meth.name = "<init>" := (name_of_methodNamed B.named B.method).1
  have hA : ∀ q : Nat, s.heap.size ≤ q → LA z q := fun q h => Nat.le_trans hE.1 h
  have hS : va_S (LA z) s.heap s.heap [] := va_S.rf
  have hin2 : ∀ w ∈ wsX20, w ∈ wsX2_init := by decide +kernel
  have hl := lv_entry ([.ref h]) (n := 1) (Nat.le_of_ble_eq_true rfl)
  rw [lg_entry_eq]
  generalize (lg_sl ([.ref h]) ++ List.replicate (1 - (lg_sl ([.ref h])).length) Slot.unset).toArray = ls at hl ⊢
  have hl : lv_has ls 1 [(0, .ref h)] := hl
  refine lv_aload_n hx hb dX2_init_0 rfl (lv_at hl 0 rfl) ?_
  refine W.objInit hx hb hown (hts (.methodLink RX2 1 objectInit) (by decide +kernel)) (hts (.instanceMethod objectInit) (by decide +kernel)) (hts _ (List.mem_cons_of_mem _ (List.mem_append_left _ (List.mem_of_getElem? (i := 2) rfl)))) rfl (by rw [hml]; exact hl.1) rfl dX2_init_1 (Nat.le_of_ble_eq_true rfl) (Nat.le_of_ble_eq_true rfl) ?_
  show W _ _ _ _ _ _ _ _ _ _ _ _ _ _ _ (F0 m 4 ls [])
  refine lv_aload_n hx hb dX2_init_4 rfl (lv_at hl 0 rfl) ?_
  refine lv_bipush (v := nI 8) hx hb dX2_init_5 (by decide) ?_
  refine rn_newa (atype := .int) (P := [(h, .inr (2, [.int 0, .null, .null, .null, .null, .null, .int 0, .null, .null]))]) (F := F) (ty := .int) (a0 := (8, .inl (fun _ => 0))) (cA := ci 0) hx hb (hts (.arrayClass .int) (by decide +kernel)) rfl hK hP hD hS hA (fun cA => by rw [vp_cell_i]; rfl) (nI_pos (by omega)) (nI_clamp (by omega)) (by decide) 0 rfl (Nat.le_of_ble_eq_true rfl) (Nat.le_of_ble_eq_true rfl) dX2_init_7 (fun q1 H hP hD hS => ?_)
  refine W.widen (k := 1) (n := 8) (by omega) (by omega) ?_
  refine lv_dup hx hb dX2_init_9 rfl ?_
  refine lv_iconst (v := nI 0) hx hb dX2_init_10 (by decide) ?_
  refine lv_iconst (v := -1) hx hb dX2_init_11 (by decide) ?_
  refine rw_ist hx hb hK hP hD hS 1 0 rfl rfl (j := 0) rfl (by decide) (by decide) (ws' := [(h, .inr (2, [.int 0, .null, .null, .null, .null, .null, .int 0, .null, .null])), (q1, .inl (ci 0, 8, .inl (upd (fun _ => 0) 0 (-1))))] ++ F) rfl dX2_init_12 (fun H locs hP hD hS => ?_)
  refine lv_dup hx hb dX2_init_13 rfl ?_
  refine lv_iconst (v := nI 1) hx hb dX2_init_14 (by decide) ?_
  refine lv_iconst (v := -1) hx hb dX2_init_15 (by decide) ?_
  refine rw_ist hx hb hK hP hD hS 1 0 rfl rfl (j := 1) rfl (by decide) (by decide) (ws' := [(h, .inr (2, [.int 0, .null, .null, .null, .null, .null, .int 0, .null, .null])), (q1, .inl (ci 0, 8, .inl (upd (upd (fun _ => 0) 0 (-1)) 1 (-1))))] ++ F) rfl dX2_init_16 (fun H locs hP hD hS => ?_)
  refine lv_dup hx hb dX2_init_17 rfl ?_
  refine lv_iconst (v := nI 2) hx hb dX2_init_18 (by decide) ?_
  refine lv_iconst (v := -1) hx hb dX2_init_19 (by decide) ?_
  refine rw_ist hx hb hK hP hD hS 1 0 rfl rfl (j := 2) rfl (by decide) (by decide) (ws' := [(h, .inr (2, [.int 0, .null, .null, .null, .null, .null, .int 0, .null, .null])), (q1, .inl (ci 0, 8, .inl (upd (upd (upd (fun _ => 0) 0 (-1)) 1 (-1)) 2 (-1))))] ++ F) rfl dX2_init_20 (fun H locs hP hD hS => ?_)
  refine lv_dup hx hb dX2_init_21 rfl ?_
  refine lv_iconst (v := nI 3) hx hb dX2_init_22 (by decide) ?_
  refine lv_iconst (v := -1) hx hb dX2_init_23 (by decide) ?_
  refine rw_ist hx hb hK hP hD hS 1 0 rfl rfl (j := 3) rfl (by decide) (by decide) (ws' := [(h, .inr (2, [.int 0, .null, .null, .null, .null, .null, .int 0, .null, .null])), (q1, .inl (ci 0, 8, .inl (upd (upd (upd (upd (fun _ => 0) 0 (-1)) 1 (-1)) 2 (-1)) 3 (-1))))] ++ F) rfl dX2_init_24 (fun H locs hP hD hS => ?_)
  refine lv_dup hx hb dX2_init_25 rfl ?_
  refine lv_iconst (v := nI 4) hx hb dX2_init_26 (by decide) ?_
  refine lv_iconst (v := -1) hx hb dX2_init_27 (by decide) ?_
  refine rw_ist hx hb hK hP hD hS 1 0 rfl rfl (j := 4) rfl (by decide) (by decide) (ws' := [(h, .inr (2, [.int 0, .null, .null, .null, .null, .null, .int 0, .null, .null])), (q1, .inl (ci 0, 8, .inl (upd (upd (upd (upd (upd (fun _ => 0) 0 (-1)) 1 (-1)) 2 (-1)) 3 (-1)) 4 (-1))))] ++ F) rfl dX2_init_28 (fun H locs hP hD hS => ?_)
  refine lv_dup hx hb dX2_init_29 rfl ?_
  refine lv_iconst (v := nI 5) hx hb dX2_init_30 (by decide) ?_
  refine lv_iconst (v := -1) hx hb dX2_init_31 (by decide) ?_
  refine rw_ist hx hb hK hP hD hS 1 0 rfl rfl (j := 5) rfl (by decide) (by decide) (ws' := [(h, .inr (2, [.int 0, .null, .null, .null, .null, .null, .int 0, .null, .null])), (q1, .inl (ci 0, 8, .inl (upd (upd (upd (upd (upd (upd (fun _ => 0) 0 (-1)) 1 (-1)) 2 (-1)) 3 (-1)) 4 (-1)) 5 (-1))))] ++ F) rfl dX2_init_32 (fun H locs hP hD hS => ?_)
  refine lv_dup hx hb dX2_init_33 rfl ?_
  refine lv_bipush (v := nI 6) hx hb dX2_init_34 (by decide) ?_
  refine lv_iconst (v := -1) hx hb dX2_init_36 (by decide) ?_
  refine rw_ist hx hb hK hP hD hS 1 0 rfl rfl (j := 6) rfl (by decide) (by decide) (ws' := [(h, .inr (2, [.int 0, .null, .null, .null, .null, .null, .int 0, .null, .null])), (q1, .inl (ci 0, 8, .inl (upd (upd (upd (upd (upd (upd (upd (fun _ => 0) 0 (-1)) 1 (-1)) 2 (-1)) 3 (-1)) 4 (-1)) 5 (-1)) 6 (-1))))] ++ F) rfl dX2_init_37 (fun H locs hP hD hS => ?_)
  refine lv_dup hx hb dX2_init_38 rfl ?_
  refine lv_bipush (v := nI 7) hx hb dX2_init_39 (by decide) ?_
  refine lv_iconst (v := -1) hx hb dX2_init_41 (by decide) ?_
  refine rw_ist hx hb hK hP hD hS 1 0 rfl rfl (j := 7) rfl (by decide) (by decide) (ws' := [(h, .inr (2, [.int 0, .null, .null, .null, .null, .null, .int 0, .null, .null])), (q1, .inl (ci 0, 8, .inl (upd (upd (upd (upd (upd (upd (upd (upd (fun _ => 0) 0 (-1)) 1 (-1)) 2 (-1)) 3 (-1)) 4 (-1)) 5 (-1)) 6 (-1)) 7 (-1))))] ++ F) rfl dX2_init_42 (fun H locs hP hD hS => ?_)
  have hP : va_P D vwCl ([(h, .inr (2, [.int 0, .null, .null, .null, .null, .null, .int 0, .null, .null])), (q1, .inl (ci 0, 8, .inl hd0))] ++ F) H := hP
  have hD : va_D (LA z) ([(h, .inr (2, [.int 0, .null, .null, .null, .null, .null, .int 0, .null, .null])), (q1, .inl (ci 0, 8, .inl hd0))] ++ F) := hD
  refine va_putF (D := D) (ci := 2) (ty := .array .int) (C := RX2) (T := TX2) (N := 9) hx hb hts hin2 tyX2 tyX2_ok nmX2 hown hK hP hD hS 0 rfl rfl 1 (by decide) (hts (.fieldLink RX2 9 "DutyRotaModel" "held" "[I") (by decide +kernel)) (fun _ h9 => h9) rfl hnm rfl (by decide +kernel) rfl rfl (Nat.le_of_ble_eq_true rfl) dX2_init_43 (fun H locs hP hD hS => ?_)
  have hP : va_P D vwCl ([(h, .inr (2, [.int 0, .ref q1, .null, .null, .null, .null, .int 0, .null, .null])), (q1, .inl (ci 0, 8, .inl hd0))] ++ F) H := hP
  have hD : va_D (LA z) ([(h, .inr (2, [.int 0, .ref q1, .null, .null, .null, .null, .int 0, .null, .null])), (q1, .inl (ci 0, 8, .inl hd0))] ++ F) := hD
  refine lv_aload_n hx hb dX2_init_46 rfl (lv_at hl 0 rfl) ?_
  refine lv_bipush (v := nI 9) hx hb dX2_init_47 (by decide) ?_
  refine rn_newa (atype := .int) (P := [(h, .inr (2, [.int 0, .ref q1, .null, .null, .null, .null, .int 0, .null, .null])), (q1, .inl (ci 0, 8, .inl hd0))]) (F := F) (ty := .int) (a0 := (9, .inl (fun _ => 0))) (cA := ci 0) hx hb (hts (.arrayClass .int) (by decide +kernel)) rfl hK hP hD hS hA (fun cA => by rw [vp_cell_i]; rfl) (nI_pos (by omega)) (nI_clamp (by omega)) (by decide) 0 rfl (Nat.le_of_ble_eq_true rfl) (Nat.le_of_ble_eq_true rfl) dX2_init_49 (fun q2 H hP hD hS => ?_)
  refine W.widen (k := 2) (n := 17) (by omega) (by omega) ?_
  refine va_putF (D := D) (ci := 2) (ty := .array .int) (C := RX2) (T := TX2) (N := 9) hx hb hts hin2 tyX2 tyX2_ok nmX2 hown hK hP hD hS 0 rfl rfl 2 (by decide) (hts (.fieldLink RX2 13 "DutyRotaModel" "makes" "[I") (by decide +kernel)) (fun _ h9 => h9) rfl hnm rfl (by decide +kernel) rfl rfl (Nat.le_of_ble_eq_true rfl) dX2_init_51 (fun H locs hP hD hS => ?_)
  have hP : va_P D vwCl ([(h, .inr (2, [.int 0, .ref q1, .ref q2, .null, .null, .null, .int 0, .null, .null])), (q1, .inl (ci 0, 8, .inl hd0)), (q2, .inl (ci 0, 9, .inl (fun _ => 0)))] ++ F) H := hP
  have hD : va_D (LA z) ([(h, .inr (2, [.int 0, .ref q1, .ref q2, .null, .null, .null, .int 0, .null, .null])), (q1, .inl (ci 0, 8, .inl hd0)), (q2, .inl (ci 0, 9, .inl (fun _ => 0)))] ++ F) := hD
  refine lv_aload_n hx hb dX2_init_54 rfl (lv_at hl 0 rfl) ?_
  refine lv_bipush (v := nI 9) hx hb dX2_init_55 (by decide) ?_
  refine rn_newa (atype := .int) (P := [(h, .inr (2, [.int 0, .ref q1, .ref q2, .null, .null, .null, .int 0, .null, .null])), (q1, .inl (ci 0, 8, .inl hd0)), (q2, .inl (ci 0, 9, .inl (fun _ => 0)))]) (F := F) (ty := .int) (a0 := (9, .inl (fun _ => 0))) (cA := ci 0) hx hb (hts (.arrayClass .int) (by decide +kernel)) rfl hK hP hD hS hA (fun cA => by rw [vp_cell_i]; rfl) (nI_pos (by omega)) (nI_clamp (by omega)) (by decide) 0 rfl (Nat.le_of_ble_eq_true rfl) (Nat.le_of_ble_eq_true rfl) dX2_init_57 (fun q3 H hP hD hS => ?_)
  refine W.widen (k := 3) (n := 26) (by omega) (by omega) ?_
  refine va_putF (D := D) (ci := 2) (ty := .array .int) (C := RX2) (T := TX2) (N := 9) hx hb hts hin2 tyX2 tyX2_ok nmX2 hown hK hP hD hS 0 rfl rfl 3 (by decide) (hts (.fieldLink RX2 16 "DutyRotaModel" "sizes" "[I") (by decide +kernel)) (fun _ h9 => h9) rfl hnm rfl (by decide +kernel) rfl rfl (Nat.le_of_ble_eq_true rfl) dX2_init_59 (fun H locs hP hD hS => ?_)
  have hP : va_P D vwCl ([(h, .inr (2, [.int 0, .ref q1, .ref q2, .ref q3, .null, .null, .int 0, .null, .null])), (q1, .inl (ci 0, 8, .inl hd0)), (q2, .inl (ci 0, 9, .inl (fun _ => 0))), (q3, .inl (ci 0, 9, .inl (fun _ => 0)))] ++ F) H := hP
  have hD : va_D (LA z) ([(h, .inr (2, [.int 0, .ref q1, .ref q2, .ref q3, .null, .null, .int 0, .null, .null])), (q1, .inl (ci 0, 8, .inl hd0)), (q2, .inl (ci 0, 9, .inl (fun _ => 0))), (q3, .inl (ci 0, 9, .inl (fun _ => 0)))] ++ F) := hD
  refine lv_aload_n hx hb dX2_init_62 rfl (lv_at hl 0 rfl) ?_
  refine lv_sipush (v := nI 360) hx hb dX2_init_63 (by decide) ?_
  refine rn_newa (atype := .long) (P := [(h, .inr (2, [.int 0, .ref q1, .ref q2, .ref q3, .null, .null, .int 0, .null, .null])), (q1, .inl (ci 0, 8, .inl hd0)), (q2, .inl (ci 0, 9, .inl (fun _ => 0))), (q3, .inl (ci 0, 9, .inl (fun _ => 0)))]) (F := F) (ty := .long) (a0 := (360, .inr (.inl (fun _ => 0)))) (cA := ci 1) hx hb (hts (.arrayClass .long) (by decide +kernel)) rfl hK hP hD hS hA (fun cA => by rw [vp_cell_l]; rfl) (nI_pos (by omega)) (nI_clamp (by omega)) (by decide) 1 rfl (Nat.le_of_ble_eq_true rfl) (Nat.le_of_ble_eq_true rfl) dX2_init_66 (fun q4 H hP hD hS => ?_)
  refine W.widen (k := 4) (n := 386) (by omega) (by omega) ?_
  refine va_putF (D := D) (ci := 2) (ty := .array .long) (C := RX2) (T := TX2) (N := 9) hx hb hts hin2 tyX2 tyX2_ok nmX2 hown hK hP hD hS 0 rfl rfl 4 (by decide) (hts (.fieldLink RX2 19 "DutyRotaModel" "cells" "[J") (by decide +kernel)) (fun _ h9 => h9) rfl hnm rfl (by decide +kernel) rfl rfl (Nat.le_of_ble_eq_true rfl) dX2_init_68 (fun H locs hP hD hS => ?_)
  have hP : va_P D vwCl ([(h, .inr (2, [.int 0, .ref q1, .ref q2, .ref q3, .ref q4, .null, .int 0, .null, .null])), (q1, .inl (ci 0, 8, .inl hd0)), (q2, .inl (ci 0, 9, .inl (fun _ => 0))), (q3, .inl (ci 0, 9, .inl (fun _ => 0))), (q4, .inl (ci 1, 360, .inr (.inl (fun _ => 0))))] ++ F) H := hP
  have hD : va_D (LA z) ([(h, .inr (2, [.int 0, .ref q1, .ref q2, .ref q3, .ref q4, .null, .int 0, .null, .null])), (q1, .inl (ci 0, 8, .inl hd0)), (q2, .inl (ci 0, 9, .inl (fun _ => 0))), (q3, .inl (ci 0, 9, .inl (fun _ => 0))), (q4, .inl (ci 1, 360, .inr (.inl (fun _ => 0))))] ++ F) := hD
  refine lv_aload_n hx hb dX2_init_71 rfl (lv_at hl 0 rfl) ?_
  refine lv_bipush (v := nI 40) hx hb dX2_init_72 (by decide) ?_
  refine rn_newa (atype := .long) (P := [(h, .inr (2, [.int 0, .ref q1, .ref q2, .ref q3, .ref q4, .null, .int 0, .null, .null])), (q1, .inl (ci 0, 8, .inl hd0)), (q2, .inl (ci 0, 9, .inl (fun _ => 0))), (q3, .inl (ci 0, 9, .inl (fun _ => 0))), (q4, .inl (ci 1, 360, .inr (.inl (fun _ => 0))))]) (F := F) (ty := .long) (a0 := (40, .inr (.inl (fun _ => 0)))) (cA := ci 1) hx hb (hts (.arrayClass .long) (by decide +kernel)) rfl hK hP hD hS hA (fun cA => by rw [vp_cell_l]; rfl) (nI_pos (by omega)) (nI_clamp (by omega)) (by decide) 1 rfl (Nat.le_of_ble_eq_true rfl) (Nat.le_of_ble_eq_true rfl) dX2_init_74 (fun q5 H hP hD hS => ?_)
  refine W.widen (k := 5) (n := 426) (by omega) (by omega) ?_
  refine va_putF (D := D) (ci := 2) (ty := .array .long) (C := RX2) (T := TX2) (N := 9) hx hb hts hin2 tyX2 tyX2_ok nmX2 hown hK hP hD hS 0 rfl rfl 5 (by decide) (hts (.fieldLink RX2 23 "DutyRotaModel" "aside" "[J") (by decide +kernel)) (fun _ h9 => h9) rfl hnm rfl (by decide +kernel) rfl rfl (Nat.le_of_ble_eq_true rfl) dX2_init_76 (fun H locs hP hD hS => ?_)
  have hP : va_P D vwCl ([(h, .inr (2, [.int 0, .ref q1, .ref q2, .ref q3, .ref q4, .ref q5, .int 0, .null, .null])), (q1, .inl (ci 0, 8, .inl hd0)), (q2, .inl (ci 0, 9, .inl (fun _ => 0))), (q3, .inl (ci 0, 9, .inl (fun _ => 0))), (q4, .inl (ci 1, 360, .inr (.inl (fun _ => 0)))), (q5, .inl (ci 1, 40, .inr (.inl (fun _ => 0))))] ++ F) H := hP
  have hD : va_D (LA z) ([(h, .inr (2, [.int 0, .ref q1, .ref q2, .ref q3, .ref q4, .ref q5, .int 0, .null, .null])), (q1, .inl (ci 0, 8, .inl hd0)), (q2, .inl (ci 0, 9, .inl (fun _ => 0))), (q3, .inl (ci 0, 9, .inl (fun _ => 0))), (q4, .inl (ci 1, 360, .inr (.inl (fun _ => 0)))), (q5, .inl (ci 1, 40, .inr (.inl (fun _ => 0))))] ++ F) := hD
  refine lv_aload_n hx hb dX2_init_79 rfl (lv_at hl 0 rfl) ?_
  refine lv_bipush (v := nI 60) hx hb dX2_init_80 (by decide) ?_
  refine rn_newa (atype := .int) (P := [(h, .inr (2, [.int 0, .ref q1, .ref q2, .ref q3, .ref q4, .ref q5, .int 0, .null, .null])), (q1, .inl (ci 0, 8, .inl hd0)), (q2, .inl (ci 0, 9, .inl (fun _ => 0))), (q3, .inl (ci 0, 9, .inl (fun _ => 0))), (q4, .inl (ci 1, 360, .inr (.inl (fun _ => 0)))), (q5, .inl (ci 1, 40, .inr (.inl (fun _ => 0))))]) (F := F) (ty := .int) (a0 := (60, .inl (fun _ => 0))) (cA := ci 0) hx hb (hts (.arrayClass .int) (by decide +kernel)) rfl hK hP hD hS hA (fun cA => by rw [vp_cell_i]; rfl) (nI_pos (by omega)) (nI_clamp (by omega)) (by decide) 0 rfl (Nat.le_of_ble_eq_true rfl) (Nat.le_of_ble_eq_true rfl) dX2_init_82 (fun q6 H hP hD hS => ?_)
  refine W.widen (k := 6) (n := 486) (by omega) (by omega) ?_
  refine va_putF (D := D) (ci := 2) (ty := .array .int) (C := RX2) (T := TX2) (N := 9) hx hb hts hin2 tyX2 tyX2_ok nmX2 hown hK hP hD hS 0 rfl rfl 7 (by decide) (hts (.fieldLink RX2 26 "DutyRotaModel" "kinds" "[I") (by decide +kernel)) (fun _ h9 => h9) rfl hnm rfl (by decide +kernel) rfl rfl (Nat.le_of_ble_eq_true rfl) dX2_init_84 (fun H locs hP hD hS => ?_)
  have hP : va_P D vwCl ([(h, .inr (2, [.int 0, .ref q1, .ref q2, .ref q3, .ref q4, .ref q5, .int 0, .ref q6, .null])), (q1, .inl (ci 0, 8, .inl hd0)), (q2, .inl (ci 0, 9, .inl (fun _ => 0))), (q3, .inl (ci 0, 9, .inl (fun _ => 0))), (q4, .inl (ci 1, 360, .inr (.inl (fun _ => 0)))), (q5, .inl (ci 1, 40, .inr (.inl (fun _ => 0)))), (q6, .inl (ci 0, 60, .inl (fun _ => 0)))] ++ F) H := hP
  have hD : va_D (LA z) ([(h, .inr (2, [.int 0, .ref q1, .ref q2, .ref q3, .ref q4, .ref q5, .int 0, .ref q6, .null])), (q1, .inl (ci 0, 8, .inl hd0)), (q2, .inl (ci 0, 9, .inl (fun _ => 0))), (q3, .inl (ci 0, 9, .inl (fun _ => 0))), (q4, .inl (ci 1, 360, .inr (.inl (fun _ => 0)))), (q5, .inl (ci 1, 40, .inr (.inl (fun _ => 0)))), (q6, .inl (ci 0, 60, .inl (fun _ => 0)))] ++ F) := hD
  refine lv_aload_n hx hb dX2_init_87 rfl (lv_at hl 0 rfl) ?_
  refine lv_bipush (v := nI 60) hx hb dX2_init_88 (by decide) ?_
  refine rn_newa (atype := .long) (P := [(h, .inr (2, [.int 0, .ref q1, .ref q2, .ref q3, .ref q4, .ref q5, .int 0, .ref q6, .null])), (q1, .inl (ci 0, 8, .inl hd0)), (q2, .inl (ci 0, 9, .inl (fun _ => 0))), (q3, .inl (ci 0, 9, .inl (fun _ => 0))), (q4, .inl (ci 1, 360, .inr (.inl (fun _ => 0)))), (q5, .inl (ci 1, 40, .inr (.inl (fun _ => 0)))), (q6, .inl (ci 0, 60, .inl (fun _ => 0)))]) (F := F) (ty := .long) (a0 := (60, .inr (.inl (fun _ => 0)))) (cA := ci 1) hx hb (hts (.arrayClass .long) (by decide +kernel)) rfl hK hP hD hS hA (fun cA => by rw [vp_cell_l]; rfl) (nI_pos (by omega)) (nI_clamp (by omega)) (by decide) 1 rfl (Nat.le_of_ble_eq_true rfl) (Nat.le_of_ble_eq_true rfl) dX2_init_90 (fun q7 H hP hD hS => ?_)
  refine W.widen (k := 7) (n := 546) (by omega) (by omega) ?_
  refine va_putF (D := D) (ci := 2) (ty := .array .long) (C := RX2) (T := TX2) (N := 9) hx hb hts hin2 tyX2 tyX2_ok nmX2 hown hK hP hD hS 0 rfl rfl 8 (by decide) (hts (.fieldLink RX2 29 "DutyRotaModel" "purses" "[J") (by decide +kernel)) (fun _ h9 => h9) rfl hnm rfl (by decide +kernel) rfl rfl (Nat.le_of_ble_eq_true rfl) dX2_init_92 (fun H locs hP hD hS => ?_)
  have hP : va_P D vwCl ([(h, .inr (2, [.int 0, .ref q1, .ref q2, .ref q3, .ref q4, .ref q5, .int 0, .ref q6, .ref q7])), (q1, .inl (ci 0, 8, .inl hd0)), (q2, .inl (ci 0, 9, .inl (fun _ => 0))), (q3, .inl (ci 0, 9, .inl (fun _ => 0))), (q4, .inl (ci 1, 360, .inr (.inl (fun _ => 0)))), (q5, .inl (ci 1, 40, .inr (.inl (fun _ => 0)))), (q6, .inl (ci 0, 60, .inl (fun _ => 0))), (q7, .inl (ci 1, 60, .inr (.inl (fun _ => 0))))] ++ F) H := hP
  have hD : va_D (LA z) ([(h, .inr (2, [.int 0, .ref q1, .ref q2, .ref q3, .ref q4, .ref q5, .int 0, .ref q6, .ref q7])), (q1, .inl (ci 0, 8, .inl hd0)), (q2, .inl (ci 0, 9, .inl (fun _ => 0))), (q3, .inl (ci 0, 9, .inl (fun _ => 0))), (q4, .inl (ci 1, 360, .inr (.inl (fun _ => 0)))), (q5, .inl (ci 1, 40, .inr (.inl (fun _ => 0)))), (q6, .inl (ci 0, 60, .inl (fun _ => 0))), (q7, .inl (ci 1, 60, .inr (.inl (fun _ => 0))))] ++ F) := hD
  exact W.vret hx hb hr (fun t ht _ => ⟨⟨fun k => [h, q1, q2, q3, q4, q5, q6, q7].getD k 0, rfl, trivial, by rw [ht]; exact hP, hD⟩, hS.F ht⟩) hS.2.2 dX2_init_95
