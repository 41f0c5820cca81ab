set_option maxHeartbeats 1000000 in
set_option maxRecDepth 100000 in
theorem blk_note {p : Program} {l : Launch} {e : Env} {s : State} {m : MethodId} {below : List Frame} {meth : Method} {c : Code} {Q : State → Prop} {D : va_G} {ci : Nat → ClassId} {ad : Nat → Nat} {b L I : Nat} {xs : Nat → Int32} (hlt : l.stackTraces = false) (hx : p.tables.exec = Jvm.exec) (hb : c.code = cL_law) (hml : c.maxLocals = 8) (hown : s.vm.findClass RL = some m.cls) (hts : ∀ w ∈ wsL_law, w.before #[Value.ref b] s = true) (hX : va_X b L xs s s.heap) (hbl : b < s.heap.size) (hK : va_K D vwCl (tyC ci) s) (hE : EV ad s.heap.size s s.heap) (hNc : va_Nc nsN iaeN s) (hL : L ≤ 3072) (hI : I + 6 ≤ L) {cells slots : Nat} (hc : cells + 3 ≤ 601024) (hs : slots + 18 ≤ 7293034) (kk : LK p l e s m below meth c Q D ci ad b I (cells + 3) (slots + 18) 1104) : LK p l e s m below meth c Q D ci ad b I cells slots 365 := by
  intro hf ft fk fp n mk sz pl fo th hd mk2 sz2 ce as Hg Z H locs ls I0 hP hD hS hl
  have hbA : ¬ LA s.heap.size b := Nat.not_le.mpr hbl
  refine lv_aload_n hx hb dL_law_365 rfl (lv_at hl 1 rfl) ?_
  refine lv_aload_n hx hb dL_law_366 rfl (lv_at hl 0 rfl) ?_
  refine lv_iload hx hb dL_law_367 (lv_at hl 4 rfl) ?_
  refine lv_iconst (v := nI 1) hx hb dL_law_369 (by decide) ?_
  refine lv_iadd hx hb dL_law_370 ?_
  refine rs_sld hx hb hX hbl hbA hS (j := I + 1) (nI_add I 1) (by omega) (by omega) dL_law_371 ?_
  refine lv_aload_n hx hb dL_law_372 rfl (lv_at hl 0 rfl) ?_
  refine lv_iload hx hb dL_law_373 (lv_at hl 4 rfl) ?_
  refine lv_iconst (v := nI 2) hx hb dL_law_375 (by decide) ?_
  refine lv_iadd hx hb dL_law_376 ?_
  refine rs_sld hx hb hX hbl hbA hS (j := I + 2) (nI_add I 2) (by omega) (by omega) dL_law_377 ?_
  refine lv_aload_n hx hb dL_law_378 rfl (lv_at hl 0 rfl) ?_
  refine lv_iload hx hb dL_law_379 (lv_at hl 4 rfl) ?_
  refine lv_iconst (v := nI 3) hx hb dL_law_381 (by decide) ?_
  refine lv_iadd hx hb dL_law_382 ?_
  refine rs_sld hx hb hX hbl hbA hS (j := I + 3) (nI_add I 3) (by omega) (by omega) dL_law_383 ?_
  refine lv_i2l hx hb dL_law_384 rfl ?_
  refine lv_bipush (v := 32) hx hb dL_law_385 (by decide) ?_
  refine lv_lshl hx hb dL_law_387 rfl ?_
  refine lv_aload_n hx hb dL_law_388 rfl (lv_at hl 0 rfl) ?_
  refine lv_iload hx hb dL_law_389 (lv_at hl 4 rfl) ?_
  refine lv_iconst (v := nI 4) hx hb dL_law_391 (by decide) ?_
  refine lv_iadd hx hb dL_law_392 ?_
  refine rs_sld hx hb hX hbl hbA hS (j := I + 4) (nI_add I 4) (by omega) (by omega) dL_law_393 ?_
  refine lv_i2l hx hb dL_law_394 rfl ?_
  refine lv_ldc2 hx hb hown (hts (.constantLong RL 80 (4294967295)) (by decide +kernel)) dL_law_395 ?_
  refine lv_land hx hb dL_law_398 ?_
  refine lv_lor hx hb dL_law_399 ?_
  refine lv_topl (fun v1 ev1 => ?_)
  refine lv_aload_n hx hb dL_law_400 rfl (lv_at hl 3 rfl) ?_
  refine va_calli (vx_runSW (As := [.ref (ad 0), .int (xs (I + 1)), .int (xs (I + 2)), .long v1, .ref (ad 40)]) (rest := []) ⟨hx, hb, hml, hown, hts⟩ (c_L_note l D ci ad s.heap.size (wM ci ad th hd mk2 sz2 ce as n fk fp) hf ft fk fp n mk sz pl fo (xs (I + 1)) (xs (I + 2)) v1 hlt I0.1.1 I0.1.2.1 I0.1.2.2.1 I0.1.2.2.2.1 I0.1.2.2.2.2.1 I0.1.2.2.2.2.2) (vx_cwSW 5 hts gL_law_L_note rfl rfl rfl (by decide +kernel) ⟨Nat.le_of_ble_eq_true rfl, Nat.le_of_ble_eq_true rfl⟩) ⟨WDN.fb, fun U hU hW => ⟨rfl, WD.call hP hD hK hE hS hU hW, hNc.moved hW.alike⟩⟩ rfl rfl hl.1 rfl (lv_room (Nat.le_of_ble_eq_true rfl)) dL_law_401 ⟨by show cells + 1 ≤ 601024; omega, by show slots + 6 ≤ 7293034; omega⟩) hS (fun q _ h => h) (fun q h => h) (fun r1 u1 t1 H locs ht1 hvm1 hw1 hB1 hz1 hk1 hS => ?_)
  have hP : va_P D vwCl (wC ci ad hf ft fk fp n mk sz u1.1 ++ (ad 40, .inl (ci 1, 1, .inr (.inl u1.2))) :: wM ci ad th hd mk2 sz2 ce as n fk fp) H := by rw [← ht1]; exact hB1.1
  have hD : va_D (LA s.heap.size) (wC ci ad hf ft fk fp n mk sz u1.1 ++ (ad 40, .inl (ci 1, 1, .inr (.inl u1.2))) :: wM ci ad th hd mk2 sz2 ce as n fk fp) := hB1.2
  refine lv_istore (lv' := [(5, .int r1), (0, .ref b), (1, .ref (ad 0)), (2, .ref (ad 30)), (3, .ref (ad 40)), (4, .int (nI I))]) hx hb dL_law_404 hl (by decide) rfl (fun ls hl => ?_)
  refine lv_aload_n hx hb dL_law_406 rfl (lv_at hl 3 rfl) ?_
  refine lv_aload_n hx hb dL_law_407 rfl (lv_at hl 1 rfl) ?_
  refine lv_iload hx hb dL_law_408 (lv_at hl 5 rfl) ?_
  refine lv_iconst (v := nI 1) hx hb dL_law_410 (by decide) ?_
  refine lv_iadd hx hb dL_law_411 ?_
  refine rs_sld hx hb hX hbl hbA hS (j := I + 1) (nI_add I 1) (by omega) (by omega) dL_law_412 ?_
  refine lv_aload_n hx hb dL_law_413 rfl (lv_at hl 1 rfl) ?_
  refine lv_iload hx hb dL_law_414 (lv_at hl 5 rfl) ?_
  refine lv_iconst (v := nI 2) hx hb dL_law_416 (by decide) ?_
  refine lv_iadd hx hb dL_law_417 ?_
  refine rs_sld hx hb hX hbl hbA hS (j := I + 2) (nI_add I 2) (by omega) (by omega) dL_law_418 ?_
  refine lv_aload_n hx hb dL_law_419 rfl (lv_at hl 1 rfl) ?_
  refine lv_iload hx hb dL_law_420 (lv_at hl 5 rfl) ?_
  refine lv_iconst (v := nI 3) hx hb dL_law_422 (by decide) ?_
  refine lv_iadd hx hb dL_law_423 ?_
  refine rs_sld hx hb hX hbl hbA hS (j := I + 3) (nI_add I 3) (by omega) (by omega) dL_law_424 ?_
  refine lv_i2l hx hb dL_law_425 rfl ?_
  refine lv_bipush (v := 32) hx hb dL_law_426 (by decide) ?_
  refine lv_lshl hx hb dL_law_428 rfl ?_
  refine lv_aload_n hx hb dL_law_429 rfl (lv_at hl 1 rfl) ?_
  refine lv_iload hx hb dL_law_430 (lv_at hl 5 rfl) ?_
  refine lv_iconst (v := nI 4) hx hb dL_law_432 (by decide) ?_
  refine lv_iadd hx hb dL_law_433 ?_
  refine rs_sld hx hb hX hbl hbA hS (j := I + 4) (nI_add I 4) (by omega) (by omega) dL_law_434 ?_
  refine lv_i2l hx hb dL_law_435 rfl ?_
  refine lv_ldc2 hx hb hown (hts (.constantLong RL 80 (4294967295)) (by decide +kernel)) dL_law_436 ?_
  refine lv_land hx hb dL_law_439 ?_
  refine lv_lor hx hb dL_law_440 ?_
  refine lv_topl (fun v2 ev2 => ?_)
  have hP := P_perm (lw_pm _ _ _) hP
  have hD := D_perm (lw_pm _ _ _) hD
  cases ev2.trans ev1.symm
  refine va_calli (va_runV (As := [.int (xs (I + 1)), .int (xs (I + 2)), .long v1]) (rest := []) ⟨hx, hb, hml, hown, hts⟩ (c_X2_note l D ci ad s.heap.size (wC ci ad hf ft fk fp n mk sz u1.1 ++ [(ad 40, .inl (ci 1, 1, .inr (.inl u1.2)))]) th hd mk2 sz2 ce as n fk fp Hg Z (xs (I + 1)) (xs (I + 2)) v1 I0.2.1.1 I0.2.1.2.1 I0.1.2.2.2.2.1 I0.2.1.2.2.1 I0.2.1.2.2.2.1) (cwV 3 hts gL_law_X2_note rfl rfl rfl (by decide +kernel) ⟨Nat.le_of_ble_eq_true rfl, Nat.le_of_ble_eq_true rfl⟩) ⟨WD.fb, (va_recv hK hP (ci := 2) (q0 := 0) rfl rfl), fun U hU hW => ⟨rfl, WD.call hP hD hK hE hS hU hW⟩⟩ rfl rfl hl.1 rfl (lv_room (Nat.le_of_ble_eq_true rfl)) dL_law_441 ⟨by show cells + 1 + 0 ≤ 601024; omega, by show slots + 6 + 0 ≤ 7293034; omega⟩) hS (fun q _ h => h) (fun q h => h) (fun r2 u2 t2 H locs ht2 hvm2 hw2 hB2 hz2 hk2 hS => ?_)
  have hP : va_P D vwCl (wM ci ad u2.1 hd mk2 sz2 u2.2 as n fk fp ++ (wC ci ad hf ft fk fp n mk sz u1.1 ++ [(ad 40, .inl (ci 1, 1, .inr (.inl u1.2)))])) H := by rw [← ht2]; exact hB2.1
  have hD : va_D (LA s.heap.size) (wM ci ad u2.1 hd mk2 sz2 u2.2 as n fk fp ++ (wC ci ad hf ft fk fp n mk sz u1.1 ++ [(ad 40, .inl (ci 1, 1, .inr (.inl u1.2)))])) := hB2.2
  obtain ⟨e1, e2, I1⟩ := sim_note I0 hw1 hw2
  refine lv_istore (lv' := [(6, .int r2), (5, .int r1), (0, .ref b), (1, .ref (ad 0)), (2, .ref (ad 30)), (3, .ref (ad 40)), (4, .int (nI I))]) hx hb dL_law_444 hl (by decide) rfl (fun ls hl => ?_)
  refine lv_aload_n hx hb dL_law_446 rfl (lv_at hl 4 rfl) ?_
  refine vp_callSi (toCR (va_runV (As := []) (rest := []) ⟨hx, hb, hml, hown, hts⟩ (c_X2_thrown l D ci ad s.heap.size (wC ci ad hf ft fk fp n mk sz u1.1 ++ [(ad 40, .inl (ci 1, 1, .inr (.inl u1.2)))]) u2.1 hd mk2 sz2 u2.2 as n fk fp) (cwV 0 hts gL_law_X2_thrown rfl rfl rfl (by decide +kernel) ⟨Nat.le_of_ble_eq_true rfl, Nat.le_of_ble_eq_true rfl⟩) ⟨WD.fb, (va_recv hK hP (ci := 2) (q0 := 0) rfl rfl), fun U hU hW => ⟨rfl, WD.call hP hD hK hE hS hU hW⟩⟩ rfl rfl hl.1 rfl (lv_room (Nat.le_of_ble_eq_true rfl)) dL_law_447 ⟨by show cells + 1 + 0 + 0 ≤ 601024; omega, by show slots + 6 + 0 + 0 ≤ 7293034; omega⟩)) (fun r3 hw3 => ?_)
  refine lv_iload hx hb dL_law_450 (lv_at hl 1 rfl) ?_
  refine lv_icmp_eq (tgt := 457) hx hb dL_law_452 (by decide) (fun _ => ?_) (fun c9 => absurd (hw3.trans e1) c9)
  refine lv_iload hx hb dL_law_457 (lv_at hl 1 rfl) ?_
  refine lv_if_ne (tgt := 474) hx hb dL_law_459 (by decide) (fun c5 => ?_) (fun c5 => ?_)
  · skip
    refine lv_goto (tgt := 1104) hx hb dL_law_474 (by decide) ?_
    refine W.widen (k := cells + 3) (n := slots + 18) (by omega) (by omega) ?_
    exact kk hf ft fk fp n mk sz u1.1 u1.2 u2.1 hd mk2 sz2 u2.2 as Hg Z H locs ls I1 (P_perm (lw_pm _ _ _).symm hP) (D_perm (lw_pm _ _ _).symm hD) hS (lv_sub hl [2, 3, 4, 5, 6] rfl)
  · skip
    refine lv_aload_n hx hb dL_law_462 rfl (lv_at hl 5 rfl) ?_
    refine lv_iconst (v := nI 0) hx hb dL_law_463 (by decide) ?_
    refine rw_lld hx hb hK hP 34 1 rfl rfl (j := 0) rfl (by decide) (by decide) dL_law_464 ?_
    refine lv_iload hx hb dL_law_465 (lv_at hl 0 rfl) ?_
    refine lv_i2l hx hb dL_law_467 rfl ?_
    refine lv_lcmp3 hx hb dL_law_468 (fun r5 e5 => ?_)
    refine lv_if_eq (tgt := 474) hx hb dL_law_469 (by decide) (fun _ => ?_) (fun c9 => absurd (e5.2.1.mpr (e2 c5)) c9)
    refine lv_goto (tgt := 1104) hx hb dL_law_474 (by decide) ?_
    refine W.widen (k := cells + 3) (n := slots + 18) (by omega) (by omega) ?_
    exact kk hf ft fk fp n mk sz u1.1 u1.2 u2.1 hd mk2 sz2 u2.2 as Hg Z H locs ls I1 (P_perm (lw_pm _ _ _).symm hP) (D_perm (lw_pm _ _ _).symm hD) hS (lv_sub hl [2, 3, 4, 5, 6] rfl)
set_option maxHeartbeats 1000000 in
set_option maxRecDepth 100000 in
theorem blk_copy {p : Program} {l : Launch} {e : Env} {s : State} {m : MethodId} {below : List Frame} {meth : Method} {c : Code} {Q : State → Prop} {D : va_G} {ci : Nat → ClassId} {ad : Nat → Nat} {b L I : Nat} {xs : Nat → Int32} (hlt : l.stackTraces = false) (hx : p.tables.exec = Jvm.exec) (hb : c.code = cL_law) (hml : c.maxLocals = 8) (hown : s.vm.findClass RL = some m.cls) (hts : ∀ w ∈ wsL_law, w.before #[Value.ref b] s = true) (hX : va_X b L xs s s.heap) (hbl : b < s.heap.size) (hK : va_K D vwCl (tyC ci) s) (hE : EV ad s.heap.size s s.heap) (hNc : va_Nc nsN iaeN s) (hL : L ≤ 3072) (hI : I + 6 ≤ L) {cells slots : Nat} (hc : cells + 3 ≤ 601024) (hs : slots + 18 ≤ 7293034) (kk : LK p l e s m below meth c Q D ci ad b I (cells + 3) (slots + 18) 1104) : LK p l e s m below meth c Q D ci ad b I cells slots 477 := by
  intro hf ft fk fp n mk sz pl fo th hd mk2 sz2 ce as Hg Z H locs ls I0 hP hD hS hl
  have hbA : ¬ LA s.heap.size b := Nat.not_le.mpr hbl
  refine lv_aload_n hx hb dL_law_477 rfl (lv_at hl 1 rfl) ?_
  refine lv_aload_n hx hb dL_law_478 rfl (lv_at hl 0 rfl) ?_
  refine lv_iload hx hb dL_law_479 (lv_at hl 4 rfl) ?_
  refine lv_iconst (v := nI 1) hx hb dL_law_481 (by decide) ?_
  refine lv_iadd hx hb dL_law_482 ?_
  refine rs_sld hx hb hX hbl hbA hS (j := I + 1) (nI_add I 1) (by omega) (by omega) dL_law_483 ?_
  refine lv_aload_n hx hb dL_law_484 rfl (lv_at hl 0 rfl) ?_
  refine lv_iload hx hb dL_law_485 (lv_at hl 4 rfl) ?_
  refine lv_iconst (v := nI 2) hx hb dL_law_487 (by decide) ?_
  refine lv_iadd hx hb dL_law_488 ?_
  refine rs_sld hx hb hX hbl hbA hS (j := I + 2) (nI_add I 2) (by omega) (by omega) dL_law_489 ?_
  refine lv_aload_n hx hb dL_law_490 rfl (lv_at hl 0 rfl) ?_
  refine lv_iload hx hb dL_law_491 (lv_at hl 4 rfl) ?_
  refine lv_iconst (v := nI 3) hx hb dL_law_493 (by decide) ?_
  refine lv_iadd hx hb dL_law_494 ?_
  refine rs_sld hx hb hX hbl hbA hS (j := I + 3) (nI_add I 3) (by omega) (by omega) dL_law_495 ?_
  refine lv_aload_n hx hb dL_law_496 rfl (lv_at hl 0 rfl) ?_
  refine lv_iload hx hb dL_law_497 (lv_at hl 4 rfl) ?_
  refine lv_iconst (v := nI 4) hx hb dL_law_499 (by decide) ?_
  refine lv_iadd hx hb dL_law_500 ?_
  refine rs_sld hx hb hX hbl hbA hS (j := I + 4) (nI_add I 4) (by omega) (by omega) dL_law_501 ?_
  refine lv_aload_n hx hb dL_law_502 rfl (lv_at hl 0 rfl) ?_
  refine lv_iload hx hb dL_law_503 (lv_at hl 4 rfl) ?_
  refine lv_iconst (v := nI 5) hx hb dL_law_505 (by decide) ?_
  refine lv_iadd hx hb dL_law_506 ?_
  refine rs_sld hx hb hX hbl hbA hS (j := I + 5) (nI_add I 5) (by omega) (by omega) dL_law_507 ?_
  refine lv_aload_n hx hb dL_law_508 rfl (lv_at hl 3 rfl) ?_
  refine va_calli (vx_runSW (As := [.ref (ad 0), .int (xs (I + 1)), .int (xs (I + 2)), .int (xs (I + 3)), .int (xs (I + 4)), .int (xs (I + 5)), .ref (ad 40)]) (rest := []) ⟨hx, hb, hml, hown, hts⟩ (c_L_copy l D ci ad s.heap.size (wM ci ad th hd mk2 sz2 ce as n fk fp) hf ft fk fp n mk sz pl fo (xs (I + 1)) (xs (I + 2)) (xs (I + 3)) (xs (I + 4)) (xs (I + 5)) hlt I0.1.1 I0.1.2.1 I0.1.2.2.1 I0.1.2.2.2.1 I0.1.2.2.2.2.1 I0.1.2.2.2.2.2) (vx_cwSW 7 hts gL_law_L_copy rfl rfl rfl (by decide +kernel) ⟨Nat.le_of_ble_eq_true rfl, Nat.le_of_ble_eq_true rfl⟩) ⟨WDN.fb, fun U hU hW => ⟨rfl, WD.call hP hD hK hE hS hU hW, hNc.moved hW.alike⟩⟩ rfl rfl hl.1 rfl (lv_room (Nat.le_of_ble_eq_true rfl)) dL_law_509 ⟨by show cells + 2 ≤ 601024; omega, by show slots + 12 ≤ 7293034; omega⟩) hS (fun q _ h => h) (fun q h => h) (fun r1 u1 t1 H locs ht1 hvm1 hw1 hB1 hz1 hk1 hS => ?_)
  have hP : va_P D vwCl (wC ci ad hf u1.1.1 fk fp n mk sz u1.1.2 ++ (ad 40, .inl (ci 1, 1, .inr (.inl u1.2))) :: wM ci ad th hd mk2 sz2 ce as n fk fp) H := by rw [← ht1]; exact hB1.1
  have hD : va_D (LA s.heap.size) (wC ci ad hf u1.1.1 fk fp n mk sz u1.1.2 ++ (ad 40, .inl (ci 1, 1, .inr (.inl u1.2))) :: wM ci ad th hd mk2 sz2 ce as n fk fp) := hB1.2
  refine lv_istore (lv' := [(5, .int r1), (0, .ref b), (1, .ref (ad 0)), (2, .ref (ad 30)), (3, .ref (ad 40)), (4, .int (nI I))]) hx hb dL_law_512 hl (by decide) rfl (fun ls hl => ?_)
  refine lv_aload_n hx hb dL_law_514 rfl (lv_at hl 3 rfl) ?_
  refine lv_aload_n hx hb dL_law_515 rfl (lv_at hl 1 rfl) ?_
  refine lv_iload hx hb dL_law_516 (lv_at hl 5 rfl) ?_
  refine lv_iconst (v := nI 1) hx hb dL_law_518 (by decide) ?_
  refine lv_iadd hx hb dL_law_519 ?_
  refine rs_sld hx hb hX hbl hbA hS (j := I + 1) (nI_add I 1) (by omega) (by omega) dL_law_520 ?_
  refine lv_aload_n hx hb dL_law_521 rfl (lv_at hl 1 rfl) ?_
  refine lv_iload hx hb dL_law_522 (lv_at hl 5 rfl) ?_
  refine lv_iconst (v := nI 2) hx hb dL_law_524 (by decide) ?_
  refine lv_iadd hx hb dL_law_525 ?_
  refine rs_sld hx hb hX hbl hbA hS (j := I + 2) (nI_add I 2) (by omega) (by omega) dL_law_526 ?_
  refine lv_aload_n hx hb dL_law_527 rfl (lv_at hl 1 rfl) ?_
  refine lv_iload hx hb dL_law_528 (lv_at hl 5 rfl) ?_
  refine lv_iconst (v := nI 3) hx hb dL_law_530 (by decide) ?_
  refine lv_iadd hx hb dL_law_531 ?_
  refine rs_sld hx hb hX hbl hbA hS (j := I + 3) (nI_add I 3) (by omega) (by omega) dL_law_532 ?_
  refine lv_aload_n hx hb dL_law_533 rfl (lv_at hl 1 rfl) ?_
  refine lv_iload hx hb dL_law_534 (lv_at hl 5 rfl) ?_
  refine lv_iconst (v := nI 4) hx hb dL_law_536 (by decide) ?_
  refine lv_iadd hx hb dL_law_537 ?_
  refine rs_sld hx hb hX hbl hbA hS (j := I + 4) (nI_add I 4) (by omega) (by omega) dL_law_538 ?_
  refine lv_aload_n hx hb dL_law_539 rfl (lv_at hl 1 rfl) ?_
  refine lv_iload hx hb dL_law_540 (lv_at hl 5 rfl) ?_
  refine lv_iconst (v := nI 5) hx hb dL_law_542 (by decide) ?_
  refine lv_iadd hx hb dL_law_543 ?_
  refine rs_sld hx hb hX hbl hbA hS (j := I + 5) (nI_add I 5) (by omega) (by omega) dL_law_544 ?_
  have hP := P_perm (lw_pm _ _ _) hP
  have hD := D_perm (lw_pm _ _ _) hD
  refine va_calli (va_runV (As := [.int (xs (I + 1)), .int (xs (I + 2)), .int (xs (I + 3)), .int (xs (I + 4)), .int (xs (I + 5))]) (rest := []) ⟨hx, hb, hml, hown, hts⟩ (c_X2_copy l D ci ad s.heap.size (wC ci ad hf u1.1.1 fk fp n mk sz u1.1.2 ++ [(ad 40, .inl (ci 1, 1, .inr (.inl u1.2)))]) th hd mk2 sz2 ce as n fk fp Hg Z (xs (I + 1)) (xs (I + 2)) (xs (I + 3)) (xs (I + 4)) (xs (I + 5)) I0.2.1.1 I0.2.1.2.1 I0.1.2.2.2.2.1 I0.2.1.2.2.1 I0.2.1.2.2.2.1) (cwV 5 hts gL_law_X2_copy rfl rfl rfl (by decide +kernel) ⟨Nat.le_of_ble_eq_true rfl, Nat.le_of_ble_eq_true rfl⟩) ⟨WD.fb, (va_recv hK hP (ci := 2) (q0 := 0) rfl rfl), fun U hU hW => ⟨rfl, WD.call hP hD hK hE hS hU hW⟩⟩ rfl rfl hl.1 rfl (lv_room (Nat.le_of_ble_eq_true rfl)) dL_law_545 ⟨by show cells + 2 + 0 ≤ 601024; omega, by show slots + 12 + 0 ≤ 7293034; omega⟩) hS (fun q _ h => h) (fun q h => h) (fun r2 u2 t2 H locs ht2 hvm2 hw2 hB2 hz2 hk2 hS => ?_)
  have hP : va_P D vwCl (wM ci ad u2.1 hd mk2 sz2 u2.2.1 u2.2.2 n fk fp ++ (wC ci ad hf u1.1.1 fk fp n mk sz u1.1.2 ++ [(ad 40, .inl (ci 1, 1, .inr (.inl u1.2)))])) H := by rw [← ht2]; exact hB2.1
  have hD : va_D (LA s.heap.size) (wM ci ad u2.1 hd mk2 sz2 u2.2.1 u2.2.2 n fk fp ++ (wC ci ad hf u1.1.1 fk fp n mk sz u1.1.2 ++ [(ad 40, .inl (ci 1, 1, .inr (.inl u1.2)))])) := hB2.2
  obtain ⟨e1, e2, I1⟩ := sim_copy I0 hw1 hw2
  refine lv_istore (lv' := [(6, .int r2), (5, .int r1), (0, .ref b), (1, .ref (ad 0)), (2, .ref (ad 30)), (3, .ref (ad 40)), (4, .int (nI I))]) hx hb dL_law_548 hl (by decide) rfl (fun ls hl => ?_)
  refine lv_aload_n hx hb dL_law_550 rfl (lv_at hl 4 rfl) ?_
  refine vp_callSi (toCR (va_runV (As := []) (rest := []) ⟨hx, hb, hml, hown, hts⟩ (c_X2_thrown l D ci ad s.heap.size (wC ci ad hf u1.1.1 fk fp n mk sz u1.1.2 ++ [(ad 40, .inl (ci 1, 1, .inr (.inl u1.2)))]) u2.1 hd mk2 sz2 u2.2.1 u2.2.2 n fk fp) (cwV 0 hts gL_law_X2_thrown rfl rfl rfl (by decide +kernel) ⟨Nat.le_of_ble_eq_true rfl, Nat.le_of_ble_eq_true rfl⟩) ⟨WD.fb, (va_recv hK hP (ci := 2) (q0 := 0) rfl rfl), fun U hU hW => ⟨rfl, WD.call hP hD hK hE hS hU hW⟩⟩ rfl rfl hl.1 rfl (lv_room (Nat.le_of_ble_eq_true rfl)) dL_law_551 ⟨by show cells + 2 + 0 + 0 ≤ 601024; omega, by show slots + 12 + 0 + 0 ≤ 7293034; omega⟩)) (fun r3 hw3 => ?_)
  refine lv_iload hx hb dL_law_554 (lv_at hl 1 rfl) ?_
  refine lv_icmp_eq (tgt := 561) hx hb dL_law_556 (by decide) (fun _ => ?_) (fun c9 => absurd (hw3.trans e1) c9)
  refine lv_iload hx hb dL_law_561 (lv_at hl 1 rfl) ?_
  refine lv_if_ne (tgt := 578) hx hb dL_law_563 (by decide) (fun c5 => ?_) (fun c5 => ?_)
  · skip
    refine lv_goto (tgt := 1104) hx hb dL_law_578 (by decide) ?_
    refine W.widen (k := cells + 3) (n := slots + 18) (by omega) (by omega) ?_
    exact kk hf u1.1.1 fk fp n mk sz u1.1.2 u1.2 u2.1 hd mk2 sz2 u2.2.1 u2.2.2 Hg Z H locs ls I1 (P_perm (lw_pm _ _ _).symm hP) (D_perm (lw_pm _ _ _).symm hD) hS (lv_sub hl [2, 3, 4, 5, 6] rfl)
  · skip
    refine lv_aload_n hx hb dL_law_566 rfl (lv_at hl 5 rfl) ?_
    refine lv_iconst (v := nI 0) hx hb dL_law_567 (by decide) ?_
    refine rw_lld hx hb hK hP 34 1 rfl rfl (j := 0) rfl (by decide) (by decide) dL_law_568 ?_
    refine lv_iload hx hb dL_law_569 (lv_at hl 0 rfl) ?_
    refine lv_i2l hx hb dL_law_571 rfl ?_
    refine lv_lcmp3 hx hb dL_law_572 (fun r5 e5 => ?_)
    refine lv_if_eq (tgt := 578) hx hb dL_law_573 (by decide) (fun _ => ?_) (fun c9 => absurd (e5.2.1.mpr (e2 c5)) c9)
    refine lv_goto (tgt := 1104) hx hb dL_law_578 (by decide) ?_
    refine W.widen (k := cells + 3) (n := slots + 18) (by omega) (by omega) ?_
    exact kk hf u1.1.1 fk fp n mk sz u1.1.2 u1.2 u2.1 hd mk2 sz2 u2.2.1 u2.2.2 Hg Z H locs ls I1 (P_perm (lw_pm _ _ _).symm hP) (D_perm (lw_pm _ _ _).symm hD) hS (lv_sub hl [2, 3, 4, 5, 6] rfl)
set_option maxHeartbeats 1000000 in
set_option maxRecDepth 100000 in
theorem blk_slide {p : Program} {l : Launch} {e : Env} {s : State} {m : MethodId} {below : List Frame} {meth : Method} {c : Code} {Q : State → Prop} {D : va_G} {ci : Nat → ClassId} {ad : Nat → Nat} {b L I : Nat} {xs : Nat → Int32} (hlt : l.stackTraces = false) (hx : p.tables.exec = Jvm.exec) (hb : c.code = cL_law) (hml : c.maxLocals = 8) (hown : s.vm.findClass RL = some m.cls) (hts : ∀ w ∈ wsL_law, w.before #[Value.ref b] s = true) (hX : va_X b L xs s s.heap) (hbl : b < s.heap.size) (hK : va_K D vwCl (tyC ci) s) (hE : EV ad s.heap.size s s.heap) (hNc : va_Nc nsN iaeN s) (hL : L ≤ 3072) (hI : I + 6 ≤ L) {cells slots : Nat} (hc : cells + 3 ≤ 601024) (hs : slots + 18 ≤ 7293034) (kk : LK p l e s m below meth c Q D ci ad b I (cells + 3) (slots + 18) 1104) : LK p l e s m below meth c Q D ci ad b I cells slots 581 := by
  intro hf ft fk fp n mk sz pl fo th hd mk2 sz2 ce as Hg Z H locs ls I0 hP hD hS hl
  have hbA : ¬ LA s.heap.size b := Nat.not_le.mpr hbl
  refine lv_aload_n hx hb dL_law_581 rfl (lv_at hl 1 rfl) ?_
  refine lv_aload_n hx hb dL_law_582 rfl (lv_at hl 0 rfl) ?_
  refine lv_iload hx hb dL_law_583 (lv_at hl 4 rfl) ?_
  refine lv_iconst (v := nI 1) hx hb dL_law_585 (by decide) ?_
  refine lv_iadd hx hb dL_law_586 ?_
  refine rs_sld hx hb hX hbl hbA hS (j := I + 1) (nI_add I 1) (by omega) (by omega) dL_law_587 ?_
  refine lv_aload_n hx hb dL_law_588 rfl (lv_at hl 0 rfl) ?_
  refine lv_iload hx hb dL_law_589 (lv_at hl 4 rfl) ?_
  refine lv_iconst (v := nI 2) hx hb dL_law_591 (by decide) ?_
  refine lv_iadd hx hb dL_law_592 ?_
  refine rs_sld hx hb hX hbl hbA hS (j := I + 2) (nI_add I 2) (by omega) (by omega) dL_law_593 ?_
  refine lv_aload_n hx hb dL_law_594 rfl (lv_at hl 0 rfl) ?_
  refine lv_iload hx hb dL_law_595 (lv_at hl 4 rfl) ?_
  refine lv_iconst (v := nI 3) hx hb dL_law_597 (by decide) ?_
  refine lv_iadd hx hb dL_law_598 ?_
  refine rs_sld hx hb hX hbl hbA hS (j := I + 3) (nI_add I 3) (by omega) (by omega) dL_law_599 ?_
  refine lv_aload_n hx hb dL_law_600 rfl (lv_at hl 3 rfl) ?_
  refine va_calli (vx_runSW (As := [.ref (ad 0), .int (xs (I + 1)), .int (xs (I + 2)), .int (xs (I + 3)), .ref (ad 40)]) (rest := []) ⟨hx, hb, hml, hown, hts⟩ (c_L_slide l D ci ad s.heap.size (wM ci ad th hd mk2 sz2 ce as n fk fp) hf ft fk fp n mk sz pl fo (xs (I + 1)) (xs (I + 2)) (xs (I + 3)) hlt I0.1.1 I0.1.2.1 I0.1.2.2.1 I0.1.2.2.2.1 I0.1.2.2.2.2.1 I0.1.2.2.2.2.2) (vx_cwSW 5 hts gL_law_L_slide rfl rfl rfl (by decide +kernel) ⟨Nat.le_of_ble_eq_true rfl, Nat.le_of_ble_eq_true rfl⟩) ⟨WDN.fb, fun U hU hW => ⟨rfl, WD.call hP hD hK hE hS hU hW, hNc.moved hW.alike⟩⟩ rfl rfl hl.1 rfl (lv_room (Nat.le_of_ble_eq_true rfl)) dL_law_601 ⟨by show cells + 1 ≤ 601024; omega, by show slots + 6 ≤ 7293034; omega⟩) hS (fun q _ h => h) (fun q h => h) (fun r1 u1 t1 H locs ht1 hvm1 hw1 hB1 hz1 hk1 hS => ?_)
  have hP : va_P D vwCl (wC ci ad hf ft fk fp n mk sz u1.1 ++ (ad 40, .inl (ci 1, 1, .inr (.inl u1.2))) :: wM ci ad th hd mk2 sz2 ce as n fk fp) H := by rw [← ht1]; exact hB1.1
  have hD : va_D (LA s.heap.size) (wC ci ad hf ft fk fp n mk sz u1.1 ++ (ad 40, .inl (ci 1, 1, .inr (.inl u1.2))) :: wM ci ad th hd mk2 sz2 ce as n fk fp) := hB1.2
  refine lv_istore (lv' := [(5, .int r1), (0, .ref b), (1, .ref (ad 0)), (2, .ref (ad 30)), (3, .ref (ad 40)), (4, .int (nI I))]) hx hb dL_law_604 hl (by decide) rfl (fun ls hl => ?_)
  refine lv_aload_n hx hb dL_law_606 rfl (lv_at hl 3 rfl) ?_
  refine lv_aload_n hx hb dL_law_607 rfl (lv_at hl 1 rfl) ?_
  refine lv_iload hx hb dL_law_608 (lv_at hl 5 rfl) ?_
  refine lv_iconst (v := nI 1) hx hb dL_law_610 (by decide) ?_
  refine lv_iadd hx hb dL_law_611 ?_
  refine rs_sld hx hb hX hbl hbA hS (j := I + 1) (nI_add I 1) (by omega) (by omega) dL_law_612 ?_
  refine lv_aload_n hx hb dL_law_613 rfl (lv_at hl 1 rfl) ?_
  refine lv_iload hx hb dL_law_614 (lv_at hl 5 rfl) ?_
  refine lv_iconst (v := nI 2) hx hb dL_law_616 (by decide) ?_
  refine lv_iadd hx hb dL_law_617 ?_
  refine rs_sld hx hb hX hbl hbA hS (j := I + 2) (nI_add I 2) (by omega) (by omega) dL_law_618 ?_
  refine lv_aload_n hx hb dL_law_619 rfl (lv_at hl 1 rfl) ?_
  refine lv_iload hx hb dL_law_620 (lv_at hl 5 rfl) ?_
  refine lv_iconst (v := nI 3) hx hb dL_law_622 (by decide) ?_
  refine lv_iadd hx hb dL_law_623 ?_
  refine rs_sld hx hb hX hbl hbA hS (j := I + 3) (nI_add I 3) (by omega) (by omega) dL_law_624 ?_
  have hP := P_perm (lw_pm _ _ _) hP
  have hD := D_perm (lw_pm _ _ _) hD
  refine va_calli (va_runV (As := [.int (xs (I + 1)), .int (xs (I + 2)), .int (xs (I + 3))]) (rest := []) ⟨hx, hb, hml, hown, hts⟩ (c_X2_slide l D ci ad s.heap.size (wC ci ad hf ft fk fp n mk sz u1.1 ++ [(ad 40, .inl (ci 1, 1, .inr (.inl u1.2)))]) th hd mk2 sz2 ce as n fk fp Hg Z (xs (I + 1)) (xs (I + 2)) (xs (I + 3)) I0.2.1.1 I0.2.1.2.1 I0.1.2.2.2.2.1 I0.2.1.2.2.1 I0.2.1.2.2.2.1) (cwV 3 hts gL_law_X2_slide rfl rfl rfl (by decide +kernel) ⟨Nat.le_of_ble_eq_true rfl, Nat.le_of_ble_eq_true rfl⟩) ⟨WD.fb, (va_recv hK hP (ci := 2) (q0 := 0) rfl rfl), fun U hU hW => ⟨rfl, WD.call hP hD hK hE hS hU hW⟩⟩ rfl rfl hl.1 rfl (lv_room (Nat.le_of_ble_eq_true rfl)) dL_law_625 ⟨by show cells + 1 + 0 ≤ 601024; omega, by show slots + 6 + 0 ≤ 7293034; omega⟩) hS (fun q _ h => h) (fun q h => h) (fun r2 u2 t2 H locs ht2 hvm2 hw2 hB2 hz2 hk2 hS => ?_)
  have hP : va_P D vwCl (wM ci ad u2.1 hd mk2 sz2 u2.2.1 u2.2.2 n fk fp ++ (wC ci ad hf ft fk fp n mk sz u1.1 ++ [(ad 40, .inl (ci 1, 1, .inr (.inl u1.2)))])) H := by rw [← ht2]; exact hB2.1
  have hD : va_D (LA s.heap.size) (wM ci ad u2.1 hd mk2 sz2 u2.2.1 u2.2.2 n fk fp ++ (wC ci ad hf ft fk fp n mk sz u1.1 ++ [(ad 40, .inl (ci 1, 1, .inr (.inl u1.2)))])) := hB2.2
  obtain ⟨e1, e2, I1⟩ := sim_slide I0 hw1 hw2
  refine lv_istore (lv' := [(6, .int r2), (5, .int r1), (0, .ref b), (1, .ref (ad 0)), (2, .ref (ad 30)), (3, .ref (ad 40)), (4, .int (nI I))]) hx hb dL_law_628 hl (by decide) rfl (fun ls hl => ?_)
  refine lv_aload_n hx hb dL_law_630 rfl (lv_at hl 4 rfl) ?_
  refine vp_callSi (toCR (va_runV (As := []) (rest := []) ⟨hx, hb, hml, hown, hts⟩ (c_X2_thrown l D ci ad s.heap.size (wC ci ad hf ft fk fp n mk sz u1.1 ++ [(ad 40, .inl (ci 1, 1, .inr (.inl u1.2)))]) u2.1 hd mk2 sz2 u2.2.1 u2.2.2 n fk fp) (cwV 0 hts gL_law_X2_thrown rfl rfl rfl (by decide +kernel) ⟨Nat.le_of_ble_eq_true rfl, Nat.le_of_ble_eq_true rfl⟩) ⟨WD.fb, (va_recv hK hP (ci := 2) (q0 := 0) rfl rfl), fun U hU hW => ⟨rfl, WD.call hP hD hK hE hS hU hW⟩⟩ rfl rfl hl.1 rfl (lv_room (Nat.le_of_ble_eq_true rfl)) dL_law_631 ⟨by show cells + 1 + 0 + 0 ≤ 601024; omega, by show slots + 6 + 0 + 0 ≤ 7293034; omega⟩)) (fun r3 hw3 => ?_)
  refine lv_iload hx hb dL_law_634 (lv_at hl 1 rfl) ?_
  refine lv_icmp_eq (tgt := 641) hx hb dL_law_636 (by decide) (fun _ => ?_) (fun c9 => absurd (hw3.trans e1) c9)
  refine lv_iload hx hb dL_law_641 (lv_at hl 1 rfl) ?_
  refine lv_if_ne (tgt := 658) hx hb dL_law_643 (by decide) (fun c5 => ?_) (fun c5 => ?_)
  · skip
    refine lv_goto (tgt := 1104) hx hb dL_law_658 (by decide) ?_
    refine W.widen (k := cells + 3) (n := slots + 18) (by omega) (by omega) ?_
    exact kk hf ft fk fp n mk sz u1.1 u1.2 u2.1 hd mk2 sz2 u2.2.1 u2.2.2 Hg Z H locs ls I1 (P_perm (lw_pm _ _ _).symm hP) (D_perm (lw_pm _ _ _).symm hD) hS (lv_sub hl [2, 3, 4, 5, 6] rfl)
  · skip
    refine lv_aload_n hx hb dL_law_646 rfl (lv_at hl 5 rfl) ?_
    refine lv_iconst (v := nI 0) hx hb dL_law_647 (by decide) ?_
    refine rw_lld hx hb hK hP 34 1 rfl rfl (j := 0) rfl (by decide) (by decide) dL_law_648 ?_
    refine lv_iload hx hb dL_law_649 (lv_at hl 0 rfl) ?_
    refine lv_i2l hx hb dL_law_651 rfl ?_
    refine lv_lcmp3 hx hb dL_law_652 (fun r5 e5 => ?_)
    refine lv_if_eq (tgt := 658) hx hb dL_law_653 (by decide) (fun _ => ?_) (fun c9 => absurd (e5.2.1.mpr (e2 c5)) c9)
    refine lv_goto (tgt := 1104) hx hb dL_law_658 (by decide) ?_
    refine W.widen (k := cells + 3) (n := slots + 18) (by omega) (by omega) ?_
    exact kk hf ft fk fp n mk sz u1.1 u1.2 u2.1 hd mk2 sz2 u2.2.1 u2.2.2 Hg Z H locs ls I1 (P_perm (lw_pm _ _ _).symm hP) (D_perm (lw_pm _ _ _).symm hD) hS (lv_sub hl [2, 3, 4, 5, 6] rfl)
set_option maxHeartbeats 1000000 in
set_option maxRecDepth 100000 in
theorem blk_turn {p : Program} {l : Launch} {e : Env} {s : State} {m : MethodId} {below : List Frame} {meth : Method} {c : Code} {Q : State → Prop} {D : va_G} {ci : Nat → ClassId} {ad : Nat → Nat} {b L I : Nat} {xs : Nat → Int32} (hlt : l.stackTraces = false) (hx : p.tables.exec = Jvm.exec) (hb : c.code = cL_law) (hml : c.maxLocals = 8) (hown : s.vm.findClass RL = some m.cls) (hts : ∀ w ∈ wsL_law, w.before #[Value.ref b] s = true) (hX : va_X b L xs s s.heap) (hbl : b < s.heap.size) (hK : va_K D vwCl (tyC ci) s) (hE : EV ad s.heap.size s s.heap) (hNc : va_Nc nsN iaeN s) (hL : L ≤ 3072) (hI : I + 6 ≤ L) {cells slots : Nat} (hc : cells + 3 ≤ 601024) (hs : slots + 18 ≤ 7293034) (kk : LK p l e s m below meth c Q D ci ad b I (cells + 3) (slots + 18) 1104) : LK p l e s m below meth c Q D ci ad b I cells slots 661 := by
  intro hf ft fk fp n mk sz pl fo th hd mk2 sz2 ce as Hg Z H locs ls I0 hP hD hS hl
  have hbA : ¬ LA s.heap.size b := Nat.not_le.mpr hbl
  refine lv_aload_n hx hb dL_law_661 rfl (lv_at hl 1 rfl) ?_
  refine lv_aload_n hx hb dL_law_662 rfl (lv_at hl 0 rfl) ?_
  refine lv_iload hx hb dL_law_663 (lv_at hl 4 rfl) ?_
  refine lv_iconst (v := nI 1) hx hb dL_law_665 (by decide) ?_
  refine lv_iadd hx hb dL_law_666 ?_
  refine rs_sld hx hb hX hbl hbA hS (j := I + 1) (nI_add I 1) (by omega) (by omega) dL_law_667 ?_
  refine lv_aload_n hx hb dL_law_668 rfl (lv_at hl 0 rfl) ?_
  refine lv_iload hx hb dL_law_669 (lv_at hl 4 rfl) ?_
  refine lv_iconst (v := nI 2) hx hb dL_law_671 (by decide) ?_
  refine lv_iadd hx hb dL_law_672 ?_
  refine rs_sld hx hb hX hbl hbA hS (j := I + 2) (nI_add I 2) (by omega) (by omega) dL_law_673 ?_
  refine lv_aload_n hx hb dL_law_674 rfl (lv_at hl 3 rfl) ?_
  refine va_calli (vx_runSW (As := [.ref (ad 0), .int (xs (I + 1)), .int (xs (I + 2)), .ref (ad 40)]) (rest := []) ⟨hx, hb, hml, hown, hts⟩ (c_L_turn l D ci ad s.heap.size (wM ci ad th hd mk2 sz2 ce as n fk fp) hf ft fk fp n mk sz pl fo (xs (I + 1)) (xs (I + 2)) hlt I0.1.1 I0.1.2.1 I0.1.2.2.1 I0.1.2.2.2.1 I0.1.2.2.2.2.1 I0.1.2.2.2.2.2) (vx_cwSW 4 hts gL_law_L_turn rfl rfl rfl (by decide +kernel) ⟨Nat.le_of_ble_eq_true rfl, Nat.le_of_ble_eq_true rfl⟩) ⟨WDN.fb, fun U hU hW => ⟨rfl, WD.call hP hD hK hE hS hU hW, hNc.moved hW.alike⟩⟩ rfl rfl hl.1 rfl (lv_room (Nat.le_of_ble_eq_true rfl)) dL_law_675 ⟨by show cells + 1 ≤ 601024; omega, by show slots + 6 ≤ 7293034; omega⟩) hS (fun q _ h => h) (fun q h => h) (fun r1 u1 t1 H locs ht1 hvm1 hw1 hB1 hz1 hk1 hS => ?_)
  have hP : va_P D vwCl (wC ci ad hf u1.1.1 fk fp n mk sz u1.1.2 ++ (ad 40, .inl (ci 1, 1, .inr (.inl u1.2))) :: wM ci ad th hd mk2 sz2 ce as n fk fp) H := by rw [← ht1]; exact hB1.1
  have hD : va_D (LA s.heap.size) (wC ci ad hf u1.1.1 fk fp n mk sz u1.1.2 ++ (ad 40, .inl (ci 1, 1, .inr (.inl u1.2))) :: wM ci ad th hd mk2 sz2 ce as n fk fp) := hB1.2
  refine lv_istore (lv' := [(5, .int r1), (0, .ref b), (1, .ref (ad 0)), (2, .ref (ad 30)), (3, .ref (ad 40)), (4, .int (nI I))]) hx hb dL_law_678 hl (by decide) rfl (fun ls hl => ?_)
  refine lv_aload_n hx hb dL_law_680 rfl (lv_at hl 3 rfl) ?_
  refine lv_aload_n hx hb dL_law_681 rfl (lv_at hl 1 rfl) ?_
  refine lv_iload hx hb dL_law_682 (lv_at hl 5 rfl) ?_
  refine lv_iconst (v := nI 1) hx hb dL_law_684 (by decide) ?_
  refine lv_iadd hx hb dL_law_685 ?_
  refine rs_sld hx hb hX hbl hbA hS (j := I + 1) (nI_add I 1) (by omega) (by omega) dL_law_686 ?_
  refine lv_aload_n hx hb dL_law_687 rfl (lv_at hl 1 rfl) ?_
  refine lv_iload hx hb dL_law_688 (lv_at hl 5 rfl) ?_
  refine lv_iconst (v := nI 2) hx hb dL_law_690 (by decide) ?_
  refine lv_iadd hx hb dL_law_691 ?_
  refine rs_sld hx hb hX hbl hbA hS (j := I + 2) (nI_add I 2) (by omega) (by omega) dL_law_692 ?_
  have hP := P_perm (lw_pm _ _ _) hP
  have hD := D_perm (lw_pm _ _ _) hD
  refine va_calli (va_runV (As := [.int (xs (I + 1)), .int (xs (I + 2))]) (rest := []) ⟨hx, hb, hml, hown, hts⟩ (c_X2_turn l D ci ad s.heap.size (wC ci ad hf u1.1.1 fk fp n mk sz u1.1.2 ++ [(ad 40, .inl (ci 1, 1, .inr (.inl u1.2)))]) th hd mk2 sz2 ce as n fk fp Hg Z (xs (I + 1)) (xs (I + 2)) I0.2.1.1 I0.2.1.2.1 I0.1.2.2.2.2.1 I0.2.1.2.2.1 I0.2.1.2.2.2.1) (cwV 2 hts gL_law_X2_turn rfl rfl rfl (by decide +kernel) ⟨Nat.le_of_ble_eq_true rfl, Nat.le_of_ble_eq_true rfl⟩) ⟨WD.fb, (va_recv hK hP (ci := 2) (q0 := 0) rfl rfl), fun U hU hW => ⟨rfl, WD.call hP hD hK hE hS hU hW⟩⟩ rfl rfl hl.1 rfl (lv_room (Nat.le_of_ble_eq_true rfl)) dL_law_693 ⟨by show cells + 1 + 0 ≤ 601024; omega, by show slots + 6 + 0 ≤ 7293034; omega⟩) hS (fun q _ h => h) (fun q h => h) (fun r2 u2 t2 H locs ht2 hvm2 hw2 hB2 hz2 hk2 hS => ?_)
  have hP : va_P D vwCl (wM ci ad u2.1 hd mk2 sz2 u2.2.1 u2.2.2 n fk fp ++ (wC ci ad hf u1.1.1 fk fp n mk sz u1.1.2 ++ [(ad 40, .inl (ci 1, 1, .inr (.inl u1.2)))])) H := by rw [← ht2]; exact hB2.1
  have hD : va_D (LA s.heap.size) (wM ci ad u2.1 hd mk2 sz2 u2.2.1 u2.2.2 n fk fp ++ (wC ci ad hf u1.1.1 fk fp n mk sz u1.1.2 ++ [(ad 40, .inl (ci 1, 1, .inr (.inl u1.2)))])) := hB2.2
  obtain ⟨e1, e2, I1⟩ := sim_turn I0 hw1 hw2
  refine lv_istore (lv' := [(6, .int r2), (5, .int r1), (0, .ref b), (1, .ref (ad 0)), (2, .ref (ad 30)), (3, .ref (ad 40)), (4, .int (nI I))]) hx hb dL_law_696 hl (by decide) rfl (fun ls hl => ?_)
  refine lv_aload_n hx hb dL_law_698 rfl (lv_at hl 4 rfl) ?_
  refine vp_callSi (toCR (va_runV (As := []) (rest := []) ⟨hx, hb, hml, hown, hts⟩ (c_X2_thrown l D ci ad s.heap.size (wC ci ad hf u1.1.1 fk fp n mk sz u1.1.2 ++ [(ad 40, .inl (ci 1, 1, .inr (.inl u1.2)))]) u2.1 hd mk2 sz2 u2.2.1 u2.2.2 n fk fp) (cwV 0 hts gL_law_X2_thrown rfl rfl rfl (by decide +kernel) ⟨Nat.le_of_ble_eq_true rfl, Nat.le_of_ble_eq_true rfl⟩) ⟨WD.fb, (va_recv hK hP (ci := 2) (q0 := 0) rfl rfl), fun U hU hW => ⟨rfl, WD.call hP hD hK hE hS hU hW⟩⟩ rfl rfl hl.1 rfl (lv_room (Nat.le_of_ble_eq_true rfl)) dL_law_699 ⟨by show cells + 1 + 0 + 0 ≤ 601024; omega, by show slots + 6 + 0 + 0 ≤ 7293034; omega⟩)) (fun r3 hw3 => ?_)
  refine lv_iload hx hb dL_law_702 (lv_at hl 1 rfl) ?_
  refine lv_icmp_eq (tgt := 709) hx hb dL_law_704 (by decide) (fun _ => ?_) (fun c9 => absurd (hw3.trans e1) c9)
  refine lv_iload hx hb dL_law_709 (lv_at hl 1 rfl) ?_
  refine lv_if_ne (tgt := 726) hx hb dL_law_711 (by decide) (fun c5 => ?_) (fun c5 => ?_)
  · skip
    refine lv_goto (tgt := 1104) hx hb dL_law_726 (by decide) ?_
    refine W.widen (k := cells + 3) (n := slots + 18) (by omega) (by omega) ?_
    exact kk hf u1.1.1 fk fp n mk sz u1.1.2 u1.2 u2.1 hd mk2 sz2 u2.2.1 u2.2.2 Hg Z H locs ls I1 (P_perm (lw_pm _ _ _).symm hP) (D_perm (lw_pm _ _ _).symm hD) hS (lv_sub hl [2, 3, 4, 5, 6] rfl)
  · skip
    refine lv_aload_n hx hb dL_law_714 rfl (lv_at hl 5 rfl) ?_
    refine lv_iconst (v := nI 0) hx hb dL_law_715 (by decide) ?_
    refine rw_lld hx hb hK hP 34 1 rfl rfl (j := 0) rfl (by decide) (by decide) dL_law_716 ?_
    refine lv_iload hx hb dL_law_717 (lv_at hl 0 rfl) ?_
    refine lv_i2l hx hb dL_law_719 rfl ?_
    refine lv_lcmp3 hx hb dL_law_720 (fun r5 e5 => ?_)
    refine lv_if_eq (tgt := 726) hx hb dL_law_721 (by decide) (fun _ => ?_) (fun c9 => absurd (e5.2.1.mpr (e2 c5)) c9)
    refine lv_goto (tgt := 1104) hx hb dL_law_726 (by decide) ?_
    refine W.widen (k := cells + 3) (n := slots + 18) (by omega) (by omega) ?_
    exact kk hf u1.1.1 fk fp n mk sz u1.1.2 u1.2 u2.1 hd mk2 sz2 u2.2.1 u2.2.2 Hg Z H locs ls I1 (P_perm (lw_pm _ _ _).symm hP) (D_perm (lw_pm _ _ _).symm hD) hS (lv_sub hl [2, 3, 4, 5, 6] rfl)
set_option maxHeartbeats 1000000 in
set_option maxRecDepth 100000 in
theorem blk_join {p : Program} {l : Launch} {e : Env} {s : State} {m : MethodId} {below : List Frame} {meth : Method} {c : Code} {Q : State → Prop} {D : va_G} {ci : Nat → ClassId} {ad : Nat → Nat} {b L I : Nat} {xs : Nat → Int32} (hlt : l.stackTraces = false) (hx : p.tables.exec = Jvm.exec) (hb : c.code = cL_law) (hml : c.maxLocals = 8) (hown : s.vm.findClass RL = some m.cls) (hts : ∀ w ∈ wsL_law, w.before #[Value.ref b] s = true) (hX : va_X b L xs s s.heap) (hbl : b < s.heap.size) (hK : va_K D vwCl (tyC ci) s) (hE : EV ad s.heap.size s s.heap) (hNc : va_Nc nsN iaeN s) (hL : L ≤ 3072) (hI : I + 6 ≤ L) {cells slots : Nat} (hc : cells + 3 ≤ 601024) (hs : slots + 18 ≤ 7293034) (kk : LK p l e s m below meth c Q D ci ad b I (cells + 3) (slots + 18) 1104) : LK p l e s m below meth c Q D ci ad b I cells slots 729 := by
  intro hf ft fk fp n mk sz pl fo th hd mk2 sz2 ce as Hg Z H locs ls I0 hP hD hS hl
  have hbA : ¬ LA s.heap.size b := Nat.not_le.mpr hbl
  refine lv_aload_n hx hb dL_law_729 rfl (lv_at hl 1 rfl) ?_
  refine lv_aload_n hx hb dL_law_730 rfl (lv_at hl 0 rfl) ?_
  refine lv_iload hx hb dL_law_731 (lv_at hl 4 rfl) ?_
  refine lv_iconst (v := nI 1) hx hb dL_law_733 (by decide) ?_
  refine lv_iadd hx hb dL_law_734 ?_
  refine rs_sld hx hb hX hbl hbA hS (j := I + 1) (nI_add I 1) (by omega) (by omega) dL_law_735 ?_
  refine lv_aload_n hx hb dL_law_736 rfl (lv_at hl 0 rfl) ?_
  refine lv_iload hx hb dL_law_737 (lv_at hl 4 rfl) ?_
  refine lv_iconst (v := nI 2) hx hb dL_law_739 (by decide) ?_
  refine lv_iadd hx hb dL_law_740 ?_
  refine rs_sld hx hb hX hbl hbA hS (j := I + 2) (nI_add I 2) (by omega) (by omega) dL_law_741 ?_
  refine lv_aload_n hx hb dL_law_742 rfl (lv_at hl 0 rfl) ?_
  refine lv_iload hx hb dL_law_743 (lv_at hl 4 rfl) ?_
  refine lv_iconst (v := nI 3) hx hb dL_law_745 (by decide) ?_
  refine lv_iadd hx hb dL_law_746 ?_
  refine rs_sld hx hb hX hbl hbA hS (j := I + 3) (nI_add I 3) (by omega) (by omega) dL_law_747 ?_
  refine lv_aload_n hx hb dL_law_748 rfl (lv_at hl 3 rfl) ?_
  refine va_calli (vx_runSW (As := [.ref (ad 0), .int (xs (I + 1)), .int (xs (I + 2)), .int (xs (I + 3)), .ref (ad 40)]) (rest := []) ⟨hx, hb, hml, hown, hts⟩ (c_L_join l D ci ad s.heap.size (wM ci ad th hd mk2 sz2 ce as n fk fp) hf ft fk fp n mk sz pl fo (xs (I + 1)) (xs (I + 2)) (xs (I + 3)) hlt I0.1.1 I0.1.2.1 I0.1.2.2.1 I0.1.2.2.2.1 I0.1.2.2.2.2.1 I0.1.2.2.2.2.2) (vx_cwSW 5 hts gL_law_L_join rfl rfl rfl (by decide +kernel) ⟨Nat.le_of_ble_eq_true rfl, Nat.le_of_ble_eq_true rfl⟩) ⟨WDN.fb, fun U hU hW => ⟨rfl, WD.call hP hD hK hE hS hU hW, hNc.moved hW.alike⟩⟩ rfl rfl hl.1 rfl (lv_room (Nat.le_of_ble_eq_true rfl)) dL_law_749 ⟨by show cells + 3 ≤ 601024; omega, by show slots + 18 ≤ 7293034; omega⟩) hS (fun q _ h => h) (fun q h => h) (fun r1 u1 t1 H locs ht1 hvm1 hw1 hB1 hz1 hk1 hS => ?_)
  have hP : va_P D vwCl (wC ci ad hf u1.1.1 fk fp n mk sz u1.1.2 ++ (ad 40, .inl (ci 1, 1, .inr (.inl u1.2))) :: wM ci ad th hd mk2 sz2 ce as n fk fp) H := by rw [← ht1]; exact hB1.1
  have hD : va_D (LA s.heap.size) (wC ci ad hf u1.1.1 fk fp n mk sz u1.1.2 ++ (ad 40, .inl (ci 1, 1, .inr (.inl u1.2))) :: wM ci ad th hd mk2 sz2 ce as n fk fp) := hB1.2
  refine lv_istore (lv' := [(5, .int r1), (0, .ref b), (1, .ref (ad 0)), (2, .ref (ad 30)), (3, .ref (ad 40)), (4, .int (nI I))]) hx hb dL_law_752 hl (by decide) rfl (fun ls hl => ?_)
  refine lv_aload_n hx hb dL_law_754 rfl (lv_at hl 3 rfl) ?_
  refine lv_aload_n hx hb dL_law_755 rfl (lv_at hl 1 rfl) ?_
  refine lv_iload hx hb dL_law_756 (lv_at hl 5 rfl) ?_
  refine lv_iconst (v := nI 1) hx hb dL_law_758 (by decide) ?_
  refine lv_iadd hx hb dL_law_759 ?_
  refine rs_sld hx hb hX hbl hbA hS (j := I + 1) (nI_add I 1) (by omega) (by omega) dL_law_760 ?_
  refine lv_aload_n hx hb dL_law_761 rfl (lv_at hl 1 rfl) ?_
  refine lv_iload hx hb dL_law_762 (lv_at hl 5 rfl) ?_
  refine lv_iconst (v := nI 2) hx hb dL_law_764 (by decide) ?_
  refine lv_iadd hx hb dL_law_765 ?_
  refine rs_sld hx hb hX hbl hbA hS (j := I + 2) (nI_add I 2) (by omega) (by omega) dL_law_766 ?_
  refine lv_aload_n hx hb dL_law_767 rfl (lv_at hl 1 rfl) ?_
  refine lv_iload hx hb dL_law_768 (lv_at hl 5 rfl) ?_
  refine lv_iconst (v := nI 3) hx hb dL_law_770 (by decide) ?_
  refine lv_iadd hx hb dL_law_771 ?_
  refine rs_sld hx hb hX hbl hbA hS (j := I + 3) (nI_add I 3) (by omega) (by omega) dL_law_772 ?_
  have hP := P_perm (lw_pm _ _ _) hP
  have hD := D_perm (lw_pm _ _ _) hD
  refine va_calli (va_runV (As := [.int (xs (I + 1)), .int (xs (I + 2)), .int (xs (I + 3))]) (rest := []) ⟨hx, hb, hml, hown, hts⟩ (c_X2_join l D ci ad s.heap.size (wC ci ad hf u1.1.1 fk fp n mk sz u1.1.2 ++ [(ad 40, .inl (ci 1, 1, .inr (.inl u1.2)))]) th hd mk2 sz2 ce as n fk fp Hg Z (xs (I + 1)) (xs (I + 2)) (xs (I + 3)) I0.2.1.1 I0.2.1.2.1 I0.1.2.2.2.2.1 I0.2.1.2.2.1 I0.2.1.2.2.2.1) (cwV 3 hts gL_law_X2_join rfl rfl rfl (by decide +kernel) ⟨Nat.le_of_ble_eq_true rfl, Nat.le_of_ble_eq_true rfl⟩) ⟨WD.fb, (va_recv hK hP (ci := 2) (q0 := 0) rfl rfl), fun U hU hW => ⟨rfl, WD.call hP hD hK hE hS hU hW⟩⟩ rfl rfl hl.1 rfl (lv_room (Nat.le_of_ble_eq_true rfl)) dL_law_773 ⟨by show cells + 3 + 0 ≤ 601024; omega, by show slots + 18 + 0 ≤ 7293034; omega⟩) hS (fun q _ h => h) (fun q h => h) (fun r2 u2 t2 H locs ht2 hvm2 hw2 hB2 hz2 hk2 hS => ?_)
  have hP : va_P D vwCl (wM ci ad u2.1 hd mk2 sz2 u2.2.1 u2.2.2 n fk fp ++ (wC ci ad hf u1.1.1 fk fp n mk sz u1.1.2 ++ [(ad 40, .inl (ci 1, 1, .inr (.inl u1.2)))])) H := by rw [← ht2]; exact hB2.1
  have hD : va_D (LA s.heap.size) (wM ci ad u2.1 hd mk2 sz2 u2.2.1 u2.2.2 n fk fp ++ (wC ci ad hf u1.1.1 fk fp n mk sz u1.1.2 ++ [(ad 40, .inl (ci 1, 1, .inr (.inl u1.2)))])) := hB2.2
  obtain ⟨e1, e2, I1⟩ := sim_join I0 hw1 hw2
  refine lv_istore (lv' := [(6, .int r2), (5, .int r1), (0, .ref b), (1, .ref (ad 0)), (2, .ref (ad 30)), (3, .ref (ad 40)), (4, .int (nI I))]) hx hb dL_law_776 hl (by decide) rfl (fun ls hl => ?_)
  refine lv_aload_n hx hb dL_law_778 rfl (lv_at hl 4 rfl) ?_
  refine vp_callSi (toCR (va_runV (As := []) (rest := []) ⟨hx, hb, hml, hown, hts⟩ (c_X2_thrown l D ci ad s.heap.size (wC ci ad hf u1.1.1 fk fp n mk sz u1.1.2 ++ [(ad 40, .inl (ci 1, 1, .inr (.inl u1.2)))]) u2.1 hd mk2 sz2 u2.2.1 u2.2.2 n fk fp) (cwV 0 hts gL_law_X2_thrown rfl rfl rfl (by decide +kernel) ⟨Nat.le_of_ble_eq_true rfl, Nat.le_of_ble_eq_true rfl⟩) ⟨WD.fb, (va_recv hK hP (ci := 2) (q0 := 0) rfl rfl), fun U hU hW => ⟨rfl, WD.call hP hD hK hE hS hU hW⟩⟩ rfl rfl hl.1 rfl (lv_room (Nat.le_of_ble_eq_true rfl)) dL_law_779 ⟨by show cells + 3 + 0 + 0 ≤ 601024; omega, by show slots + 18 + 0 + 0 ≤ 7293034; omega⟩)) (fun r3 hw3 => ?_)
  refine lv_iload hx hb dL_law_782 (lv_at hl 1 rfl) ?_
  refine lv_icmp_eq (tgt := 789) hx hb dL_law_784 (by decide) (fun _ => ?_) (fun c9 => absurd (hw3.trans e1) c9)
  refine lv_iload hx hb dL_law_789 (lv_at hl 1 rfl) ?_
  refine lv_if_ne (tgt := 806) hx hb dL_law_791 (by decide) (fun c5 => ?_) (fun c5 => ?_)
  · skip
    refine lv_goto (tgt := 1104) hx hb dL_law_806 (by decide) ?_
    refine W.widen (k := cells + 3) (n := slots + 18) (by omega) (by omega) ?_
    exact kk hf u1.1.1 fk fp n mk sz u1.1.2 u1.2 u2.1 hd mk2 sz2 u2.2.1 u2.2.2 Hg Z H locs ls I1 (P_perm (lw_pm _ _ _).symm hP) (D_perm (lw_pm _ _ _).symm hD) hS (lv_sub hl [2, 3, 4, 5, 6] rfl)
  · skip
    refine lv_aload_n hx hb dL_law_794 rfl (lv_at hl 5 rfl) ?_
    refine lv_iconst (v := nI 0) hx hb dL_law_795 (by decide) ?_
    refine rw_lld hx hb hK hP 34 1 rfl rfl (j := 0) rfl (by decide) (by decide) dL_law_796 ?_
    refine lv_iload hx hb dL_law_797 (lv_at hl 0 rfl) ?_
    refine lv_i2l hx hb dL_law_799 rfl ?_
    refine lv_lcmp3 hx hb dL_law_800 (fun r5 e5 => ?_)
    refine lv_if_eq (tgt := 806) hx hb dL_law_801 (by decide) (fun _ => ?_) (fun c9 => absurd (e5.2.1.mpr (e2 c5)) c9)
    refine lv_goto (tgt := 1104) hx hb dL_law_806 (by decide) ?_
    refine W.widen (k := cells + 3) (n := slots + 18) (by omega) (by omega) ?_
    exact kk hf u1.1.1 fk fp n mk sz u1.1.2 u1.2 u2.1 hd mk2 sz2 u2.2.1 u2.2.2 Hg Z H locs ls I1 (P_perm (lw_pm _ _ _).symm hP) (D_perm (lw_pm _ _ _).symm hD) hS (lv_sub hl [2, 3, 4, 5, 6] rfl)
