set_option maxHeartbeats 1000000 in
set_option maxRecDepth 100000 in
theorem blk_pay {p : Program} {l : Launch} {e : Env} {s : State} {m : MethodId} {below : List Frame} {meth : Method} {c : Code} {Q : State → Prop} {D : va_G} {ci : Nat → ClassId} {ad : Nat → Nat} {b L I : Nat} {xs : Nat → Int32} (hlt : l.stackTraces = false) (hx : p.tables.exec = Jvm.exec) (hb : c.code = cL_law) (hml : c.maxLocals = 8) (hown : s.vm.findClass RL = some m.cls) (hts : ∀ w ∈ wsL_law, w.before #[Value.ref b] s = true) (hX : va_X b L xs s s.heap) (hbl : b < s.heap.size) (hK : va_K D vwCl (tyC ci) s) (hE : EV ad s.heap.size s s.heap) (hNc : va_Nc nsN iaeN s) (hL : L ≤ 3072) (hI : I + 6 ≤ L) {cells slots : Nat} (hc : cells + 3 ≤ 601024) (hs : slots + 18 ≤ 7293034) (kk : LK p l e s m below meth c Q D ci ad b I (cells + 3) (slots + 18) 1104) : LK p l e s m below meth c Q D ci ad b I cells slots 809 := by
  intro hf ft fk fp n mk sz pl fo th hd mk2 sz2 ce as Hg Z H locs ls I0 hP hD hS hl
  have hbA : ¬ LA s.heap.size b := Nat.not_le.mpr hbl
  refine lv_aload_n hx hb dL_law_809 rfl (lv_at hl 1 rfl) ?_
  refine lv_aload_n hx hb dL_law_810 rfl (lv_at hl 0 rfl) ?_
  refine lv_iload hx hb dL_law_811 (lv_at hl 4 rfl) ?_
  refine lv_iconst (v := nI 1) hx hb dL_law_813 (by decide) ?_
  refine lv_iadd hx hb dL_law_814 ?_
  refine rs_sld hx hb hX hbl hbA hS (j := I + 1) (nI_add I 1) (by omega) (by omega) dL_law_815 ?_
  refine lv_aload_n hx hb dL_law_816 rfl (lv_at hl 0 rfl) ?_
  refine lv_iload hx hb dL_law_817 (lv_at hl 4 rfl) ?_
  refine lv_iconst (v := nI 2) hx hb dL_law_819 (by decide) ?_
  refine lv_iadd hx hb dL_law_820 ?_
  refine rs_sld hx hb hX hbl hbA hS (j := I + 2) (nI_add I 2) (by omega) (by omega) dL_law_821 ?_
  refine lv_aload_n hx hb dL_law_822 rfl (lv_at hl 0 rfl) ?_
  refine lv_iload hx hb dL_law_823 (lv_at hl 4 rfl) ?_
  refine lv_iconst (v := nI 3) hx hb dL_law_825 (by decide) ?_
  refine lv_iadd hx hb dL_law_826 ?_
  refine rs_sld hx hb hX hbl hbA hS (j := I + 3) (nI_add I 3) (by omega) (by omega) dL_law_827 ?_
  refine lv_aload_n hx hb dL_law_828 rfl (lv_at hl 3 rfl) ?_
  refine va_calli (vx_runSW (As := [.ref (ad 0), .int (xs (I + 1)), .int (xs (I + 2)), .int (xs (I + 3)), .ref (ad 40)]) (rest := []) ⟨hx, hb, hml, hown, hts⟩ (c_L_pay l D ci ad s.heap.size (wM ci ad th hd mk2 sz2 ce as n fk fp) hf ft fk fp n mk sz pl fo (xs (I + 1)) (xs (I + 2)) (xs (I + 3)) hlt I0.1.1 I0.1.2.1 I0.1.2.2.1 I0.1.2.2.2.1 I0.1.2.2.2.2.1 I0.1.2.2.2.2.2) (vx_cwSW 5 hts gL_law_L_pay rfl rfl rfl (by decide +kernel) ⟨Nat.le_of_ble_eq_true rfl, Nat.le_of_ble_eq_true rfl⟩) ⟨WDN.fb, fun U hU hW => ⟨rfl, WD.call hP hD hK hE hS hU hW, hNc.moved hW.alike⟩⟩ rfl rfl hl.1 rfl (lv_room (Nat.le_of_ble_eq_true rfl)) dL_law_829 ⟨by show cells + 3 ≤ 601024; omega, by show slots + 18 ≤ 7293034; omega⟩) hS (fun q _ h => h) (fun q h => h) (fun r1 u1 t1 H locs ht1 hvm1 hw1 hB1 hz1 hk1 hS => ?_)
  have hP : va_P D vwCl (wC ci ad hf ft fk u1.1 n mk sz pl ++ (ad 40, .inl (ci 1, 1, .inr (.inl u1.2))) :: wM ci ad th hd mk2 sz2 ce as n fk fp) H := by rw [← ht1]; exact hB1.1
  have hD : va_D (LA s.heap.size) (wC ci ad hf ft fk u1.1 n mk sz pl ++ (ad 40, .inl (ci 1, 1, .inr (.inl u1.2))) :: wM ci ad th hd mk2 sz2 ce as n fk fp) := hB1.2
  refine lv_istore (lv' := [(5, .int r1), (0, .ref b), (1, .ref (ad 0)), (2, .ref (ad 30)), (3, .ref (ad 40)), (4, .int (nI I))]) hx hb dL_law_832 hl (by decide) rfl (fun ls hl => ?_)
  refine lv_aload_n hx hb dL_law_834 rfl (lv_at hl 3 rfl) ?_
  refine lv_aload_n hx hb dL_law_835 rfl (lv_at hl 1 rfl) ?_
  refine lv_iload hx hb dL_law_836 (lv_at hl 5 rfl) ?_
  refine lv_iconst (v := nI 1) hx hb dL_law_838 (by decide) ?_
  refine lv_iadd hx hb dL_law_839 ?_
  refine rs_sld hx hb hX hbl hbA hS (j := I + 1) (nI_add I 1) (by omega) (by omega) dL_law_840 ?_
  refine lv_aload_n hx hb dL_law_841 rfl (lv_at hl 1 rfl) ?_
  refine lv_iload hx hb dL_law_842 (lv_at hl 5 rfl) ?_
  refine lv_iconst (v := nI 2) hx hb dL_law_844 (by decide) ?_
  refine lv_iadd hx hb dL_law_845 ?_
  refine rs_sld hx hb hX hbl hbA hS (j := I + 2) (nI_add I 2) (by omega) (by omega) dL_law_846 ?_
  refine lv_aload_n hx hb dL_law_847 rfl (lv_at hl 1 rfl) ?_
  refine lv_iload hx hb dL_law_848 (lv_at hl 5 rfl) ?_
  refine lv_iconst (v := nI 3) hx hb dL_law_850 (by decide) ?_
  refine lv_iadd hx hb dL_law_851 ?_
  refine rs_sld hx hb hX hbl hbA hS (j := I + 3) (nI_add I 3) (by omega) (by omega) dL_law_852 ?_
  have hP := P_perm (lw_pm _ _ _) hP
  have hD := D_perm (lw_pm _ _ _) hD
  refine va_calli (va_runV (As := [.int (xs (I + 1)), .int (xs (I + 2)), .int (xs (I + 3))]) (rest := []) ⟨hx, hb, hml, hown, hts⟩ (c_X2_pay l D ci ad s.heap.size (wC ci ad hf ft fk u1.1 n mk sz pl ++ [(ad 40, .inl (ci 1, 1, .inr (.inl u1.2)))]) th hd mk2 sz2 ce as n fk fp Hg Z (xs (I + 1)) (xs (I + 2)) (xs (I + 3)) I0.2.1.1 I0.2.1.2.1 I0.1.2.2.2.2.1 I0.2.1.2.2.1 I0.2.1.2.2.2.1 I0.2.1.2.2.2.2) (cwV 3 hts gL_law_X2_pay rfl rfl rfl (by decide +kernel) ⟨Nat.le_of_ble_eq_true rfl, Nat.le_of_ble_eq_true rfl⟩) ⟨WD.fb, (va_recv hK hP (ci := 2) (q0 := 0) rfl rfl), fun U hU hW => ⟨rfl, WD.call hP hD hK hE hS hU hW⟩⟩ rfl rfl hl.1 rfl (lv_room (Nat.le_of_ble_eq_true rfl)) dL_law_853 ⟨by show cells + 3 + 0 ≤ 601024; omega, by show slots + 18 + 0 ≤ 7293034; omega⟩) hS (fun q _ h => h) (fun q h => h) (fun r2 u2 t2 H locs ht2 hvm2 hw2 hB2 hz2 hk2 hS => ?_)
  have hP : va_P D vwCl (wM ci ad u2.1 hd mk2 sz2 ce as n fk u2.2 ++ (wC ci ad hf ft fk u1.1 n mk sz pl ++ [(ad 40, .inl (ci 1, 1, .inr (.inl u1.2)))])) H := by rw [← ht2]; exact hB2.1
  have hD : va_D (LA s.heap.size) (wM ci ad u2.1 hd mk2 sz2 ce as n fk u2.2 ++ (wC ci ad hf ft fk u1.1 n mk sz pl ++ [(ad 40, .inl (ci 1, 1, .inr (.inl u1.2)))])) := hB2.2
  obtain ⟨e1, e2, e3, I1⟩ := sim_pay I0 hw1 hw2
  refine lv_istore (lv' := [(6, .int r2), (5, .int r1), (0, .ref b), (1, .ref (ad 0)), (2, .ref (ad 30)), (3, .ref (ad 40)), (4, .int (nI I))]) hx hb dL_law_856 hl (by decide) rfl (fun ls hl => ?_)
  refine lv_aload_n hx hb dL_law_858 rfl (lv_at hl 4 rfl) ?_
  refine vp_callSi (toCR (va_runV (As := []) (rest := []) ⟨hx, hb, hml, hown, hts⟩ (c_X2_thrown l D ci ad s.heap.size (wC ci ad hf ft fk u1.1 n mk sz pl ++ [(ad 40, .inl (ci 1, 1, .inr (.inl u1.2)))]) u2.1 hd mk2 sz2 ce as n fk u2.2) (cwV 0 hts gL_law_X2_thrown rfl rfl rfl (by decide +kernel) ⟨Nat.le_of_ble_eq_true rfl, Nat.le_of_ble_eq_true rfl⟩) ⟨WD.fb, (va_recv hK hP (ci := 2) (q0 := 0) rfl rfl), fun U hU hW => ⟨rfl, WD.call hP hD hK hE hS hU hW⟩⟩ rfl rfl hl.1 rfl (lv_room (Nat.le_of_ble_eq_true rfl)) dL_law_859 ⟨by show cells + 3 + 0 + 0 ≤ 601024; omega, by show slots + 18 + 0 + 0 ≤ 7293034; omega⟩)) (fun r3 hw3 => ?_)
  refine lv_iload hx hb dL_law_862 (lv_at hl 1 rfl) ?_
  refine lv_icmp_eq (tgt := 869) hx hb dL_law_864 (by decide) (fun _ => ?_) (fun c9 => absurd (hw3.trans e1) c9)
  rw [e3] at hP hD
  refine lv_iload hx hb dL_law_869 (lv_at hl 1 rfl) ?_
  refine lv_if_ne (tgt := 886) hx hb dL_law_871 (by decide) (fun c5 => ?_) (fun c5 => ?_)
  · skip
    refine lv_goto (tgt := 1104) hx hb dL_law_886 (by decide) ?_
    refine W.widen (k := cells + 3) (n := slots + 18) (by omega) (by omega) ?_
    exact kk hf ft fk u1.1 n mk sz pl u1.2 u2.1 hd mk2 sz2 ce as Hg Z H locs ls I1 (P_perm (lw_pm _ _ _).symm hP) (D_perm (lw_pm _ _ _).symm hD) hS (lv_sub hl [2, 3, 4, 5, 6] rfl)
  · skip
    refine lv_aload_n hx hb dL_law_874 rfl (lv_at hl 5 rfl) ?_
    refine lv_iconst (v := nI 0) hx hb dL_law_875 (by decide) ?_
    refine rw_lld hx hb hK hP 34 1 rfl rfl (j := 0) rfl (by decide) (by decide) dL_law_876 ?_
    refine lv_iload hx hb dL_law_877 (lv_at hl 0 rfl) ?_
    refine lv_i2l hx hb dL_law_879 rfl ?_
    refine lv_lcmp3 hx hb dL_law_880 (fun r5 e5 => ?_)
    refine lv_if_eq (tgt := 886) hx hb dL_law_881 (by decide) (fun _ => ?_) (fun c9 => absurd (e5.2.1.mpr (e2 c5)) c9)
    refine lv_goto (tgt := 1104) hx hb dL_law_886 (by decide) ?_
    refine W.widen (k := cells + 3) (n := slots + 18) (by omega) (by omega) ?_
    exact kk hf ft fk u1.1 n mk sz pl u1.2 u2.1 hd mk2 sz2 ce as Hg Z H locs ls I1 (P_perm (lw_pm _ _ _).symm hP) (D_perm (lw_pm _ _ _).symm hD) hS (lv_sub hl [2, 3, 4, 5, 6] rfl)
set_option maxHeartbeats 1000000 in
set_option maxRecDepth 100000 in
theorem blk_look {p : Program} {l : Launch} {e : Env} {s : State} {m : MethodId} {below : List Frame} {meth : Method} {c : Code} {Q : State → Prop} {D : va_G} {ci : Nat → ClassId} {ad : Nat → Nat} {b L I : Nat} {xs : Nat → Int32} (hlt : l.stackTraces = false) (hx : p.tables.exec = Jvm.exec) (hb : c.code = cL_law) (hml : c.maxLocals = 8) (hown : s.vm.findClass RL = some m.cls) (hts : ∀ w ∈ wsL_law, w.before #[Value.ref b] s = true) (hX : va_X b L xs s s.heap) (hbl : b < s.heap.size) (hK : va_K D vwCl (tyC ci) s) (hE : EV ad s.heap.size s s.heap) (hNc : va_Nc nsN iaeN s) (hL : L ≤ 3072) (hI : I + 6 ≤ L) {cells slots : Nat} (hc : cells + 3 ≤ 601024) (hs : slots + 18 ≤ 7293034) (kk : LK p l e s m below meth c Q D ci ad b I (cells + 3) (slots + 18) 1104) : LK p l e s m below meth c Q D ci ad b I cells slots 889 := by
  intro hf ft fk fp n mk sz pl fo th hd mk2 sz2 ce as Hg Z H locs ls I0 hP hD hS hl
  have hbA : ¬ LA s.heap.size b := Nat.not_le.mpr hbl
  refine lv_aload_n hx hb dL_law_889 rfl (lv_at hl 1 rfl) ?_
  refine lv_aload_n hx hb dL_law_890 rfl (lv_at hl 0 rfl) ?_
  refine lv_iload hx hb dL_law_891 (lv_at hl 4 rfl) ?_
  refine lv_iconst (v := nI 1) hx hb dL_law_893 (by decide) ?_
  refine lv_iadd hx hb dL_law_894 ?_
  refine rs_sld hx hb hX hbl hbA hS (j := I + 1) (nI_add I 1) (by omega) (by omega) dL_law_895 ?_
  refine lv_aload_n hx hb dL_law_896 rfl (lv_at hl 0 rfl) ?_
  refine lv_iload hx hb dL_law_897 (lv_at hl 4 rfl) ?_
  refine lv_iconst (v := nI 2) hx hb dL_law_899 (by decide) ?_
  refine lv_iadd hx hb dL_law_900 ?_
  refine rs_sld hx hb hX hbl hbA hS (j := I + 2) (nI_add I 2) (by omega) (by omega) dL_law_901 ?_
  refine lv_aload_n hx hb dL_law_902 rfl (lv_at hl 3 rfl) ?_
  refine va_calli (vx_runSW (As := [.ref (ad 0), .int (xs (I + 1)), .int (xs (I + 2)), .ref (ad 40)]) (rest := []) ⟨hx, hb, hml, hown, hts⟩ (c_L_look l D ci ad s.heap.size (wM ci ad th hd mk2 sz2 ce as n fk fp) hf ft fk fp n mk sz pl fo (xs (I + 1)) (xs (I + 2)) hlt I0.1.1 I0.1.2.1 I0.1.2.2.1 I0.1.2.2.2.1 I0.1.2.2.2.2.1 I0.1.2.2.2.2.2) (vx_cwSW 4 hts gL_law_L_look rfl rfl rfl (by decide +kernel) ⟨Nat.le_of_ble_eq_true rfl, Nat.le_of_ble_eq_true rfl⟩) ⟨WDN.fb, fun U hU hW => ⟨rfl, WD.call hP hD hK hE hS hU hW, hNc.moved hW.alike⟩⟩ rfl rfl hl.1 rfl (lv_room (Nat.le_of_ble_eq_true rfl)) dL_law_903 ⟨by show cells + 1 ≤ 601024; omega, by show slots + 6 ≤ 7293034; omega⟩) hS (fun q _ h => h) (fun q h => h) (fun r1 u1 t1 H locs ht1 hvm1 hw1 hB1 hz1 hk1 hS => ?_)
  have hP : va_P D vwCl (wC ci ad hf ft fk fp n mk sz pl ++ (ad 40, .inl (ci 1, 1, .inr (.inl u1.2))) :: wM ci ad th hd mk2 sz2 ce as n fk fp) H := by rw [← ht1]; exact hB1.1
  have hD : va_D (LA s.heap.size) (wC ci ad hf ft fk fp n mk sz pl ++ (ad 40, .inl (ci 1, 1, .inr (.inl u1.2))) :: wM ci ad th hd mk2 sz2 ce as n fk fp) := hB1.2
  refine lv_istore (lv' := [(5, .int r1), (0, .ref b), (1, .ref (ad 0)), (2, .ref (ad 30)), (3, .ref (ad 40)), (4, .int (nI I))]) hx hb dL_law_906 hl (by decide) rfl (fun ls hl => ?_)
  refine lv_aload_n hx hb dL_law_908 rfl (lv_at hl 3 rfl) ?_
  refine lv_aload_n hx hb dL_law_909 rfl (lv_at hl 1 rfl) ?_
  refine lv_iload hx hb dL_law_910 (lv_at hl 5 rfl) ?_
  refine lv_iconst (v := nI 1) hx hb dL_law_912 (by decide) ?_
  refine lv_iadd hx hb dL_law_913 ?_
  refine rs_sld hx hb hX hbl hbA hS (j := I + 1) (nI_add I 1) (by omega) (by omega) dL_law_914 ?_
  refine lv_aload_n hx hb dL_law_915 rfl (lv_at hl 1 rfl) ?_
  refine lv_iload hx hb dL_law_916 (lv_at hl 5 rfl) ?_
  refine lv_iconst (v := nI 2) hx hb dL_law_918 (by decide) ?_
  refine lv_iadd hx hb dL_law_919 ?_
  refine rs_sld hx hb hX hbl hbA hS (j := I + 2) (nI_add I 2) (by omega) (by omega) dL_law_920 ?_
  have hP := P_perm (lw_pm _ _ _) hP
  have hD := D_perm (lw_pm _ _ _) hD
  refine va_calli (va_runV (As := [.int (xs (I + 1)), .int (xs (I + 2))]) (rest := []) ⟨hx, hb, hml, hown, hts⟩ (c_X2_look l D ci ad s.heap.size (wC ci ad hf ft fk fp n mk sz pl ++ [(ad 40, .inl (ci 1, 1, .inr (.inl u1.2)))]) th hd mk2 sz2 ce as n fk fp Hg Z (xs (I + 1)) (xs (I + 2)) I0.2.1.1 I0.2.1.2.1 I0.1.2.2.2.2.1 I0.2.1.2.2.1 I0.2.1.2.2.2.1 I0.2.1.2.2.2.2) (cwV 2 hts gL_law_X2_look rfl rfl rfl (by decide +kernel) ⟨Nat.le_of_ble_eq_true rfl, Nat.le_of_ble_eq_true rfl⟩) ⟨WD.fb, (va_recv hK hP (ci := 2) (q0 := 0) rfl rfl), fun U hU hW => ⟨rfl, WD.call hP hD hK hE hS hU hW⟩⟩ rfl rfl hl.1 rfl (lv_room (Nat.le_of_ble_eq_true rfl)) dL_law_921 ⟨by show cells + 1 + 0 ≤ 601024; omega, by show slots + 6 + 0 ≤ 7293034; omega⟩) hS (fun q _ h => h) (fun q h => h) (fun r2 u2 t2 H locs ht2 hvm2 hw2 hB2 hz2 hk2 hS => ?_)
  have hP : va_P D vwCl (wM ci ad u2 hd mk2 sz2 ce as n fk fp ++ (wC ci ad hf ft fk fp n mk sz pl ++ [(ad 40, .inl (ci 1, 1, .inr (.inl u1.2)))])) H := by rw [← ht2]; exact hB2.1
  have hD : va_D (LA s.heap.size) (wM ci ad u2 hd mk2 sz2 ce as n fk fp ++ (wC ci ad hf ft fk fp n mk sz pl ++ [(ad 40, .inl (ci 1, 1, .inr (.inl u1.2)))])) := hB2.2
  obtain ⟨e1, e2⟩ := sim_look I0 hw1 hw2
  have I1 := I0
  refine lv_istore (lv' := [(6, .int r2), (5, .int r1), (0, .ref b), (1, .ref (ad 0)), (2, .ref (ad 30)), (3, .ref (ad 40)), (4, .int (nI I))]) hx hb dL_law_924 hl (by decide) rfl (fun ls hl => ?_)
  refine lv_aload_n hx hb dL_law_926 rfl (lv_at hl 4 rfl) ?_
  refine vp_callSi (toCR (va_runV (As := []) (rest := []) ⟨hx, hb, hml, hown, hts⟩ (c_X2_thrown l D ci ad s.heap.size (wC ci ad hf ft fk fp n mk sz pl ++ [(ad 40, .inl (ci 1, 1, .inr (.inl u1.2)))]) u2 hd mk2 sz2 ce as n fk fp) (cwV 0 hts gL_law_X2_thrown rfl rfl rfl (by decide +kernel) ⟨Nat.le_of_ble_eq_true rfl, Nat.le_of_ble_eq_true rfl⟩) ⟨WD.fb, (va_recv hK hP (ci := 2) (q0 := 0) rfl rfl), fun U hU hW => ⟨rfl, WD.call hP hD hK hE hS hU hW⟩⟩ rfl rfl hl.1 rfl (lv_room (Nat.le_of_ble_eq_true rfl)) dL_law_927 ⟨by show cells + 1 + 0 + 0 ≤ 601024; omega, by show slots + 6 + 0 + 0 ≤ 7293034; omega⟩)) (fun r3 hw3 => ?_)
  refine lv_iload hx hb dL_law_930 (lv_at hl 1 rfl) ?_
  refine lv_icmp_eq (tgt := 937) hx hb dL_law_932 (by decide) (fun _ => ?_) (fun c9 => absurd (hw3.trans e1) c9)
  refine lv_iload hx hb dL_law_937 (lv_at hl 1 rfl) ?_
  refine lv_if_ne (tgt := 954) hx hb dL_law_939 (by decide) (fun c5 => ?_) (fun c5 => ?_)
  · skip
    refine lv_goto (tgt := 1104) hx hb dL_law_954 (by decide) ?_
    refine W.widen (k := cells + 3) (n := slots + 18) (by omega) (by omega) ?_
    exact kk hf ft fk fp n mk sz pl u1.2 u2 hd mk2 sz2 ce as Hg Z H locs ls I1 (P_perm (lw_pm _ _ _).symm hP) (D_perm (lw_pm _ _ _).symm hD) hS (lv_sub hl [2, 3, 4, 5, 6] rfl)
  · skip
    refine lv_aload_n hx hb dL_law_942 rfl (lv_at hl 5 rfl) ?_
    refine lv_iconst (v := nI 0) hx hb dL_law_943 (by decide) ?_
    refine rw_lld hx hb hK hP 34 1 rfl rfl (j := 0) rfl (by decide) (by decide) dL_law_944 ?_
    refine lv_iload hx hb dL_law_945 (lv_at hl 0 rfl) ?_
    refine lv_i2l hx hb dL_law_947 rfl ?_
    refine lv_lcmp3 hx hb dL_law_948 (fun r5 e5 => ?_)
    refine lv_if_eq (tgt := 954) hx hb dL_law_949 (by decide) (fun _ => ?_) (fun c9 => absurd (e5.2.1.mpr (e2 c5)) c9)
    refine lv_goto (tgt := 1104) hx hb dL_law_954 (by decide) ?_
    refine W.widen (k := cells + 3) (n := slots + 18) (by omega) (by omega) ?_
    exact kk hf ft fk fp n mk sz pl u1.2 u2 hd mk2 sz2 ce as Hg Z H locs ls I1 (P_perm (lw_pm _ _ _).symm hP) (D_perm (lw_pm _ _ _).symm hD) hS (lv_sub hl [2, 3, 4, 5, 6] rfl)
set_option maxHeartbeats 1000000 in
set_option maxRecDepth 100000 in
theorem blk_at {p : Program} {l : Launch} {e : Env} {s : State} {m : MethodId} {below : List Frame} {meth : Method} {c : Code} {Q : State → Prop} {D : va_G} {ci : Nat → ClassId} {ad : Nat → Nat} {b L I : Nat} {xs : Nat → Int32} (hlt : l.stackTraces = false) (hx : p.tables.exec = Jvm.exec) (hb : c.code = cL_law) (hml : c.maxLocals = 8) (hown : s.vm.findClass RL = some m.cls) (hts : ∀ w ∈ wsL_law, w.before #[Value.ref b] s = true) (hX : va_X b L xs s s.heap) (hbl : b < s.heap.size) (hK : va_K D vwCl (tyC ci) s) (hE : EV ad s.heap.size s s.heap) (hNc : va_Nc nsN iaeN s) (hL : L ≤ 3072) (hI : I + 6 ≤ L) {cells slots : Nat} (hc : cells + 3 ≤ 601024) (hs : slots + 18 ≤ 7293034) (kk : LK p l e s m below meth c Q D ci ad b I (cells + 3) (slots + 18) 1104) : LK p l e s m below meth c Q D ci ad b I cells slots 957 := by
  intro hf ft fk fp n mk sz pl fo th hd mk2 sz2 ce as Hg Z H locs ls I0 hP hD hS hl
  have hbA : ¬ LA s.heap.size b := Nat.not_le.mpr hbl
  refine lv_aload_n hx hb dL_law_957 rfl (lv_at hl 1 rfl) ?_
  refine lv_aload_n hx hb dL_law_958 rfl (lv_at hl 0 rfl) ?_
  refine lv_iload hx hb dL_law_959 (lv_at hl 4 rfl) ?_
  refine lv_iconst (v := nI 1) hx hb dL_law_961 (by decide) ?_
  refine lv_iadd hx hb dL_law_962 ?_
  refine rs_sld hx hb hX hbl hbA hS (j := I + 1) (nI_add I 1) (by omega) (by omega) dL_law_963 ?_
  refine lv_aload_n hx hb dL_law_964 rfl (lv_at hl 0 rfl) ?_
  refine lv_iload hx hb dL_law_965 (lv_at hl 4 rfl) ?_
  refine lv_iconst (v := nI 2) hx hb dL_law_967 (by decide) ?_
  refine lv_iadd hx hb dL_law_968 ?_
  refine rs_sld hx hb hX hbl hbA hS (j := I + 2) (nI_add I 2) (by omega) (by omega) dL_law_969 ?_
  refine lv_aload_n hx hb dL_law_970 rfl (lv_at hl 3 rfl) ?_
  refine va_calli (vx_runSW (As := [.ref (ad 0), .int (xs (I + 1)), .int (xs (I + 2)), .ref (ad 40)]) (rest := []) ⟨hx, hb, hml, hown, hts⟩ (c_L_at l D ci ad s.heap.size (wM ci ad th hd mk2 sz2 ce as n fk fp) hf ft fk fp n mk sz pl fo (xs (I + 1)) (xs (I + 2)) hlt I0.1.1 I0.1.2.1 I0.1.2.2.1 I0.1.2.2.2.1 I0.1.2.2.2.2.1 I0.1.2.2.2.2.2) (vx_cwSW 4 hts gL_law_L_at rfl rfl rfl (by decide +kernel) ⟨Nat.le_of_ble_eq_true rfl, Nat.le_of_ble_eq_true rfl⟩) ⟨WDN.fb, fun U hU hW => ⟨rfl, WD.call hP hD hK hE hS hU hW, hNc.moved hW.alike⟩⟩ rfl rfl hl.1 rfl (lv_room (Nat.le_of_ble_eq_true rfl)) dL_law_971 ⟨by show cells + 2 ≤ 601024; omega, by show slots + 12 ≤ 7293034; omega⟩) hS (fun q _ h => h) (fun q h => h) (fun r1 u1 t1 H locs ht1 hvm1 hw1 hB1 hz1 hk1 hS => ?_)
  have hP : va_P D vwCl (wC ci ad hf ft fk fp n mk sz pl ++ (ad 40, .inl (ci 1, 1, .inr (.inl u1.2))) :: wM ci ad th hd mk2 sz2 ce as n fk fp) H := by rw [← ht1]; exact hB1.1
  have hD : va_D (LA s.heap.size) (wC ci ad hf ft fk fp n mk sz pl ++ (ad 40, .inl (ci 1, 1, .inr (.inl u1.2))) :: wM ci ad th hd mk2 sz2 ce as n fk fp) := hB1.2
  refine lv_istore (lv' := [(5, .int r1), (0, .ref b), (1, .ref (ad 0)), (2, .ref (ad 30)), (3, .ref (ad 40)), (4, .int (nI I))]) hx hb dL_law_974 hl (by decide) rfl (fun ls hl => ?_)
  refine lv_aload_n hx hb dL_law_976 rfl (lv_at hl 3 rfl) ?_
  refine lv_aload_n hx hb dL_law_977 rfl (lv_at hl 1 rfl) ?_
  refine lv_iload hx hb dL_law_978 (lv_at hl 5 rfl) ?_
  refine lv_iconst (v := nI 1) hx hb dL_law_980 (by decide) ?_
  refine lv_iadd hx hb dL_law_981 ?_
  refine rs_sld hx hb hX hbl hbA hS (j := I + 1) (nI_add I 1) (by omega) (by omega) dL_law_982 ?_
  refine lv_aload_n hx hb dL_law_983 rfl (lv_at hl 1 rfl) ?_
  refine lv_iload hx hb dL_law_984 (lv_at hl 5 rfl) ?_
  refine lv_iconst (v := nI 2) hx hb dL_law_986 (by decide) ?_
  refine lv_iadd hx hb dL_law_987 ?_
  refine rs_sld hx hb hX hbl hbA hS (j := I + 2) (nI_add I 2) (by omega) (by omega) dL_law_988 ?_
  have hP := P_perm (lw_pm _ _ _) hP
  have hD := D_perm (lw_pm _ _ _) hD
  refine va_calll (va_runV (As := [.int (xs (I + 1)), .int (xs (I + 2))]) (rest := []) ⟨hx, hb, hml, hown, hts⟩ (c_X2_at l D ci ad s.heap.size (wC ci ad hf ft fk fp n mk sz pl ++ [(ad 40, .inl (ci 1, 1, .inr (.inl u1.2)))]) th hd mk2 sz2 ce as n fk fp Hg Z (xs (I + 1)) (xs (I + 2)) I0.2.1.1 I0.2.1.2.1 I0.1.2.2.2.2.1 I0.2.1.2.2.1 I0.2.1.2.2.2.1) (cwV 2 hts gL_law_X2_at rfl rfl rfl (by decide +kernel) ⟨Nat.le_of_ble_eq_true rfl, Nat.le_of_ble_eq_true rfl⟩) ⟨WD.fb, (va_recv hK hP (ci := 2) (q0 := 0) rfl rfl), fun U hU hW => ⟨rfl, WD.call hP hD hK hE hS hU hW⟩⟩ rfl rfl hl.1 rfl (lv_room (Nat.le_of_ble_eq_true rfl)) dL_law_989 ⟨by show cells + 2 + 0 ≤ 601024; omega, by show slots + 12 + 0 ≤ 7293034; omega⟩) hS (fun q _ h => h) (fun q h => h) (fun r2 u2 t2 H locs ht2 hvm2 hw2 hB2 hz2 hk2 hS => ?_)
  have hP : va_P D vwCl (wM ci ad u2 hd mk2 sz2 ce as n fk fp ++ (wC ci ad hf ft fk fp n mk sz pl ++ [(ad 40, .inl (ci 1, 1, .inr (.inl u1.2)))])) H := by rw [← ht2]; exact hB2.1
  have hD : va_D (LA s.heap.size) (wM ci ad u2 hd mk2 sz2 ce as n fk fp ++ (wC ci ad hf ft fk fp n mk sz pl ++ [(ad 40, .inl (ci 1, 1, .inr (.inl u1.2)))])) := hB2.2
  obtain ⟨e1, e2⟩ := sim_at I0 hw1 hw2
  have I1 := I0
  refine lv_lstore (lv' := [(6, .long r2), (5, .int r1), (0, .ref b), (1, .ref (ad 0)), (2, .ref (ad 30)), (3, .ref (ad 40)), (4, .int (nI I))]) hx hb dL_law_992 hl (by decide) rfl (fun ls hl => ?_)
  refine lv_aload_n hx hb dL_law_994 rfl (lv_at hl 4 rfl) ?_
  refine vp_callSi (toCR (va_runV (As := []) (rest := []) ⟨hx, hb, hml, hown, hts⟩ (c_X2_thrown l D ci ad s.heap.size (wC ci ad hf ft fk fp n mk sz pl ++ [(ad 40, .inl (ci 1, 1, .inr (.inl u1.2)))]) u2 hd mk2 sz2 ce as n fk fp) (cwV 0 hts gL_law_X2_thrown rfl rfl rfl (by decide +kernel) ⟨Nat.le_of_ble_eq_true rfl, Nat.le_of_ble_eq_true rfl⟩) ⟨WD.fb, (va_recv hK hP (ci := 2) (q0 := 0) rfl rfl), fun U hU hW => ⟨rfl, WD.call hP hD hK hE hS hU hW⟩⟩ rfl rfl hl.1 rfl (lv_room (Nat.le_of_ble_eq_true rfl)) dL_law_995 ⟨by show cells + 2 + 0 + 0 ≤ 601024; omega, by show slots + 12 + 0 + 0 ≤ 7293034; omega⟩)) (fun r3 hw3 => ?_)
  refine lv_iload hx hb dL_law_998 (lv_at hl 1 rfl) ?_
  refine lv_icmp_eq (tgt := 1005) hx hb dL_law_1000 (by decide) (fun _ => ?_) (fun c9 => absurd (hw3.trans e1) c9)
  refine lv_iload hx hb dL_law_1005 (lv_at hl 1 rfl) ?_
  refine lv_if_ne (tgt := 1021) hx hb dL_law_1007 (by decide) (fun c5 => ?_) (fun c5 => ?_)
  · skip
    refine lv_goto (tgt := 1104) hx hb dL_law_1021 (by decide) ?_
    refine W.widen (k := cells + 3) (n := slots + 18) (by omega) (by omega) ?_
    exact kk hf ft fk fp n mk sz pl u1.2 u2 hd mk2 sz2 ce as Hg Z H locs ls I1 (P_perm (lw_pm _ _ _).symm hP) (D_perm (lw_pm _ _ _).symm hD) hS (lv_sub hl [2, 3, 4, 5, 6] rfl)
  · skip
    refine lv_aload_n hx hb dL_law_1010 rfl (lv_at hl 5 rfl) ?_
    refine lv_iconst (v := nI 0) hx hb dL_law_1011 (by decide) ?_
    refine rw_lld hx hb hK hP 34 1 rfl rfl (j := 0) rfl (by decide) (by decide) dL_law_1012 ?_
    refine lv_lload hx hb dL_law_1013 (lv_at hl 0 rfl) ?_
    refine lv_lcmp3 hx hb dL_law_1015 (fun r5 e5 => ?_)
    refine lv_if_eq (tgt := 1021) hx hb dL_law_1016 (by decide) (fun _ => ?_) (fun c9 => absurd (e5.2.1.mpr (e2 c5)) c9)
    refine lv_goto (tgt := 1104) hx hb dL_law_1021 (by decide) ?_
    refine W.widen (k := cells + 3) (n := slots + 18) (by omega) (by omega) ?_
    exact kk hf ft fk fp n mk sz pl u1.2 u2 hd mk2 sz2 ce as Hg Z H locs ls I1 (P_perm (lw_pm _ _ _).symm hP) (D_perm (lw_pm _ _ _).symm hD) hS (lv_sub hl [2, 3, 4, 5, 6] rfl)
set_option maxHeartbeats 1000000 in
set_option maxRecDepth 100000 in
theorem blk_person {p : Program} {l : Launch} {e : Env} {s : State} {m : MethodId} {below : List Frame} {meth : Method} {c : Code} {Q : State → Prop} {D : va_G} {ci : Nat → ClassId} {ad : Nat → Nat} {b L I : Nat} {xs : Nat → Int32} (hlt : l.stackTraces = false) (hx : p.tables.exec = Jvm.exec) (hb : c.code = cL_law) (hml : c.maxLocals = 8) (hown : s.vm.findClass RL = some m.cls) (hts : ∀ w ∈ wsL_law, w.before #[Value.ref b] s = true) (hX : va_X b L xs s s.heap) (hbl : b < s.heap.size) (hK : va_K D vwCl (tyC ci) s) (hE : EV ad s.heap.size s s.heap) (hNc : va_Nc nsN iaeN s) (hL : L ≤ 3072) (hI : I + 6 ≤ L) {cells slots : Nat} (hc : cells + 3 ≤ 601024) (hs : slots + 18 ≤ 7293034) (kk : LK p l e s m below meth c Q D ci ad b I (cells + 3) (slots + 18) 1104) : LK p l e s m below meth c Q D ci ad b I cells slots 1024 := by
  intro hf ft fk fp n mk sz pl fo th hd mk2 sz2 ce as Hg Z H locs ls I0 hP hD hS hl
  have hbA : ¬ LA s.heap.size b := Nat.not_le.mpr hbl
  refine lv_aload_n hx hb dL_law_1024 rfl (lv_at hl 1 rfl) ?_
  refine lv_aload_n hx hb dL_law_1025 rfl (lv_at hl 0 rfl) ?_
  refine lv_iload hx hb dL_law_1026 (lv_at hl 4 rfl) ?_
  refine lv_iconst (v := nI 1) hx hb dL_law_1028 (by decide) ?_
  refine lv_iadd hx hb dL_law_1029 ?_
  refine rs_sld hx hb hX hbl hbA hS (j := I + 1) (nI_add I 1) (by omega) (by omega) dL_law_1030 ?_
  refine lv_aload_n hx hb dL_law_1031 rfl (lv_at hl 0 rfl) ?_
  refine lv_iload hx hb dL_law_1032 (lv_at hl 4 rfl) ?_
  refine lv_iconst (v := nI 2) hx hb dL_law_1034 (by decide) ?_
  refine lv_iadd hx hb dL_law_1035 ?_
  refine rs_sld hx hb hX hbl hbA hS (j := I + 2) (nI_add I 2) (by omega) (by omega) dL_law_1036 ?_
  refine lv_aload_n hx hb dL_law_1037 rfl (lv_at hl 3 rfl) ?_
  refine va_calli (vx_runSW (As := [.ref (ad 0), .int (xs (I + 1)), .int (xs (I + 2)), .ref (ad 40)]) (rest := []) ⟨hx, hb, hml, hown, hts⟩ (c_L_person l D ci ad s.heap.size (wM ci ad th hd mk2 sz2 ce as n fk fp) hf ft fk fp n mk sz pl fo (xs (I + 1)) (xs (I + 2)) hlt I0.1.1 I0.1.2.1 I0.1.2.2.1 I0.1.2.2.2.1 I0.1.2.2.2.2.1 I0.1.2.2.2.2.2) (vx_cwSW 4 hts gL_law_L_person rfl rfl rfl (by decide +kernel) ⟨Nat.le_of_ble_eq_true rfl, Nat.le_of_ble_eq_true rfl⟩) ⟨WDN.fb, fun U hU hW => ⟨rfl, WD.call hP hD hK hE hS hU hW, hNc.moved hW.alike⟩⟩ rfl rfl hl.1 rfl (lv_room (Nat.le_of_ble_eq_true rfl)) dL_law_1038 ⟨by show cells + 1 ≤ 601024; omega, by show slots + 6 ≤ 7293034; omega⟩) hS (fun q _ h => h) (fun q h => h) (fun r1 u1 t1 H locs ht1 hvm1 hw1 hB1 hz1 hk1 hS => ?_)
  have hP : va_P D vwCl (wC ci ad hf ft fk fp n mk sz pl ++ (ad 40, .inl (ci 1, 1, .inr (.inl u1.2))) :: wM ci ad th hd mk2 sz2 ce as n fk fp) H := by rw [← ht1]; exact hB1.1
  have hD : va_D (LA s.heap.size) (wC ci ad hf ft fk fp n mk sz pl ++ (ad 40, .inl (ci 1, 1, .inr (.inl u1.2))) :: wM ci ad th hd mk2 sz2 ce as n fk fp) := hB1.2
  refine lv_istore (lv' := [(5, .int r1), (0, .ref b), (1, .ref (ad 0)), (2, .ref (ad 30)), (3, .ref (ad 40)), (4, .int (nI I))]) hx hb dL_law_1041 hl (by decide) rfl (fun ls hl => ?_)
  refine lv_aload_n hx hb dL_law_1043 rfl (lv_at hl 3 rfl) ?_
  refine lv_aload_n hx hb dL_law_1044 rfl (lv_at hl 1 rfl) ?_
  refine lv_iload hx hb dL_law_1045 (lv_at hl 5 rfl) ?_
  refine lv_iconst (v := nI 1) hx hb dL_law_1047 (by decide) ?_
  refine lv_iadd hx hb dL_law_1048 ?_
  refine rs_sld hx hb hX hbl hbA hS (j := I + 1) (nI_add I 1) (by omega) (by omega) dL_law_1049 ?_
  refine lv_aload_n hx hb dL_law_1050 rfl (lv_at hl 1 rfl) ?_
  refine lv_iload hx hb dL_law_1051 (lv_at hl 5 rfl) ?_
  refine lv_iconst (v := nI 2) hx hb dL_law_1053 (by decide) ?_
  refine lv_iadd hx hb dL_law_1054 ?_
  refine rs_sld hx hb hX hbl hbA hS (j := I + 2) (nI_add I 2) (by omega) (by omega) dL_law_1055 ?_
  have hP := P_perm (lw_pm _ _ _) hP
  have hD := D_perm (lw_pm _ _ _) hD
  refine va_calll (va_runV (As := [.int (xs (I + 1)), .int (xs (I + 2))]) (rest := []) ⟨hx, hb, hml, hown, hts⟩ (c_X2_person l D ci ad s.heap.size (wC ci ad hf ft fk fp n mk sz pl ++ [(ad 40, .inl (ci 1, 1, .inr (.inl u1.2)))]) th hd mk2 sz2 ce as n fk fp Hg Z (xs (I + 1)) (xs (I + 2)) I0.2.1.1 I0.2.1.2.1 I0.1.2.2.2.2.1 I0.2.1.2.2.1 I0.2.1.2.2.2.1) (cwV 2 hts gL_law_X2_person rfl rfl rfl (by decide +kernel) ⟨Nat.le_of_ble_eq_true rfl, Nat.le_of_ble_eq_true rfl⟩) ⟨WD.fb, (va_recv hK hP (ci := 2) (q0 := 0) rfl rfl), fun U hU hW => ⟨rfl, WD.call hP hD hK hE hS hU hW⟩⟩ rfl rfl hl.1 rfl (lv_room (Nat.le_of_ble_eq_true rfl)) dL_law_1056 ⟨by show cells + 1 + 0 ≤ 601024; omega, by show slots + 6 + 0 ≤ 7293034; omega⟩) hS (fun q _ h => h) (fun q h => h) (fun r2 u2 t2 H locs ht2 hvm2 hw2 hB2 hz2 hk2 hS => ?_)
  have hP : va_P D vwCl (wM ci ad u2 hd mk2 sz2 ce as n fk fp ++ (wC ci ad hf ft fk fp n mk sz pl ++ [(ad 40, .inl (ci 1, 1, .inr (.inl u1.2)))])) H := by rw [← ht2]; exact hB2.1
  have hD : va_D (LA s.heap.size) (wM ci ad u2 hd mk2 sz2 ce as n fk fp ++ (wC ci ad hf ft fk fp n mk sz pl ++ [(ad 40, .inl (ci 1, 1, .inr (.inl u1.2)))])) := hB2.2
  obtain ⟨e1, e2⟩ := sim_person I0 hw1 hw2
  have I1 := I0
  refine lv_lstore (lv' := [(6, .long r2), (5, .int r1), (0, .ref b), (1, .ref (ad 0)), (2, .ref (ad 30)), (3, .ref (ad 40)), (4, .int (nI I))]) hx hb dL_law_1059 hl (by decide) rfl (fun ls hl => ?_)
  refine lv_aload_n hx hb dL_law_1061 rfl (lv_at hl 4 rfl) ?_
  refine vp_callSi (toCR (va_runV (As := []) (rest := []) ⟨hx, hb, hml, hown, hts⟩ (c_X2_thrown l D ci ad s.heap.size (wC ci ad hf ft fk fp n mk sz pl ++ [(ad 40, .inl (ci 1, 1, .inr (.inl u1.2)))]) u2 hd mk2 sz2 ce as n fk fp) (cwV 0 hts gL_law_X2_thrown rfl rfl rfl (by decide +kernel) ⟨Nat.le_of_ble_eq_true rfl, Nat.le_of_ble_eq_true rfl⟩) ⟨WD.fb, (va_recv hK hP (ci := 2) (q0 := 0) rfl rfl), fun U hU hW => ⟨rfl, WD.call hP hD hK hE hS hU hW⟩⟩ rfl rfl hl.1 rfl (lv_room (Nat.le_of_ble_eq_true rfl)) dL_law_1062 ⟨by show cells + 1 + 0 + 0 ≤ 601024; omega, by show slots + 6 + 0 + 0 ≤ 7293034; omega⟩)) (fun r3 hw3 => ?_)
  refine lv_iload hx hb dL_law_1065 (lv_at hl 1 rfl) ?_
  refine lv_icmp_eq (tgt := 1072) hx hb dL_law_1067 (by decide) (fun _ => ?_) (fun c9 => absurd (hw3.trans e1) c9)
  refine lv_iload hx hb dL_law_1072 (lv_at hl 1 rfl) ?_
  refine lv_if_ne (tgt := 1088) hx hb dL_law_1074 (by decide) (fun c5 => ?_) (fun c5 => ?_)
  · skip
    refine lv_goto (tgt := 1104) hx hb dL_law_1088 (by decide) ?_
    refine W.widen (k := cells + 3) (n := slots + 18) (by omega) (by omega) ?_
    exact kk hf ft fk fp n mk sz pl u1.2 u2 hd mk2 sz2 ce as Hg Z H locs ls I1 (P_perm (lw_pm _ _ _).symm hP) (D_perm (lw_pm _ _ _).symm hD) hS (lv_sub hl [2, 3, 4, 5, 6] rfl)
  · skip
    refine lv_aload_n hx hb dL_law_1077 rfl (lv_at hl 5 rfl) ?_
    refine lv_iconst (v := nI 0) hx hb dL_law_1078 (by decide) ?_
    refine rw_lld hx hb hK hP 34 1 rfl rfl (j := 0) rfl (by decide) (by decide) dL_law_1079 ?_
    refine lv_lload hx hb dL_law_1080 (lv_at hl 0 rfl) ?_
    refine lv_lcmp3 hx hb dL_law_1082 (fun r5 e5 => ?_)
    refine lv_if_eq (tgt := 1088) hx hb dL_law_1083 (by decide) (fun _ => ?_) (fun c9 => absurd (e5.2.1.mpr (e2 c5)) c9)
    refine lv_goto (tgt := 1104) hx hb dL_law_1088 (by decide) ?_
    refine W.widen (k := cells + 3) (n := slots + 18) (by omega) (by omega) ?_
    exact kk hf ft fk fp n mk sz pl u1.2 u2 hd mk2 sz2 ce as Hg Z H locs ls I1 (P_perm (lw_pm _ _ _).symm hP) (D_perm (lw_pm _ _ _).symm hD) hS (lv_sub hl [2, 3, 4, 5, 6] rfl)
set_option maxHeartbeats 1000000 in
set_option maxRecDepth 100000 in
theorem blk_count {p : Program} {l : Launch} {e : Env} {s : State} {m : MethodId} {below : List Frame} {meth : Method} {c : Code} {Q : State → Prop} {D : va_G} {ci : Nat → ClassId} {ad : Nat → Nat} {b L I : Nat} {xs : Nat → Int32} (hlt : l.stackTraces = false) (hx : p.tables.exec = Jvm.exec) (hb : c.code = cL_law) (hml : c.maxLocals = 8) (hown : s.vm.findClass RL = some m.cls) (hts : ∀ w ∈ wsL_law, w.before #[Value.ref b] s = true) (hX : va_X b L xs s s.heap) (hbl : b < s.heap.size) (hK : va_K D vwCl (tyC ci) s) (hE : EV ad s.heap.size s s.heap) (hNc : va_Nc nsN iaeN s) (hL : L ≤ 3072) (hI : I + 6 ≤ L) {cells slots : Nat} (hc : cells + 3 ≤ 601024) (hs : slots + 18 ≤ 7293034) (kk : LK p l e s m below meth c Q D ci ad b I (cells + 3) (slots + 18) 1104) : LK p l e s m below meth c Q D ci ad b I cells slots 1091 := by
  intro hf ft fk fp n mk sz pl fo th hd mk2 sz2 ce as Hg Z H locs ls I0 hP hD hS hl
  refine lv_aload_n hx hb dL_law_1091 rfl (lv_at hl 1 rfl) ?_
  refine vp_callSi (toCR (va_runV (As := []) (rest := []) ⟨hx, hb, hml, hown, hts⟩ (c_X1_count l D ci ad s.heap.size ((ad 40, .inl (ci 1, 1, .inr (.inl fo))) :: wM ci ad th hd mk2 sz2 ce as n fk fp) hf ft fk fp n mk sz pl) (cwV 0 hts gL_law_X1_count rfl rfl rfl (by decide +kernel) ⟨Nat.le_of_ble_eq_true rfl, Nat.le_of_ble_eq_true rfl⟩) ⟨WD.fb, (va_recv hK hP (ci := 1) (q0 := 0) rfl rfl), fun U hU hW => ⟨rfl, WD.call hP hD hK hE hS hU hW⟩⟩ rfl rfl hl.1 rfl (lv_room (Nat.le_of_ble_eq_true rfl)) dL_law_1092 ⟨by show cells + 0 ≤ 601024; omega, by show slots + 0 ≤ 7293034; omega⟩)) (fun r1 hw1 => ?_)
  refine lv_aload_n hx hb dL_law_1095 rfl (lv_at hl 2 rfl) ?_
  have hP := P_perm (lw_pm _ _ _) hP
  have hD := D_perm (lw_pm _ _ _) hD
  refine va_calli (va_runV (As := []) (rest := [.int r1]) ⟨hx, hb, hml, hown, hts⟩ (c_X2_count l D ci ad s.heap.size (wC ci ad hf ft fk fp n mk sz pl ++ [(ad 40, .inl (ci 1, 1, .inr (.inl fo)))]) th hd mk2 sz2 ce as n fk fp Hg Z I0.2.1.1 I0.2.1.2.1 I0.1.2.2.2.2.1 I0.2.1.2.2.1 I0.2.1.2.2.2.1) (cwV 0 hts gL_law_X2_count rfl rfl rfl (by decide +kernel) ⟨Nat.le_of_ble_eq_true rfl, Nat.le_of_ble_eq_true rfl⟩) ⟨WD.fb, (va_recv hK hP (ci := 2) (q0 := 0) rfl rfl), fun U hU hW => ⟨rfl, WD.call hP hD hK hE hS hU hW⟩⟩ rfl rfl hl.1 rfl (lv_room (Nat.le_of_ble_eq_true rfl)) dL_law_1096 ⟨by show cells + 0 + 0 ≤ 601024; omega, by show slots + 0 + 0 ≤ 7293034; omega⟩) hS (fun q _ h => h) (fun q h => h) (fun r2 u2 t2 H locs ht2 hvm2 hw2 hB2 hz2 hk2 hS => ?_)
  have hP : va_P D vwCl (wM ci ad u2 hd mk2 sz2 ce as n fk fp ++ (wC ci ad hf ft fk fp n mk sz pl ++ [(ad 40, .inl (ci 1, 1, .inr (.inl fo)))])) H := by rw [← ht2]; exact hB2.1
  have hD : va_D (LA s.heap.size) (wM ci ad u2 hd mk2 sz2 ce as n fk fp ++ (wC ci ad hf ft fk fp n mk sz pl ++ [(ad 40, .inl (ci 1, 1, .inr (.inl fo)))])) := hB2.2
  refine lv_icmp_eq (tgt := 1104) hx hb dL_law_1099 (by decide) (fun _ => ?_) (fun c9 => absurd (hw1.trans hw2.1.symm) c9)
  refine W.widen (k := cells + 3) (n := slots + 18) (by omega) (by omega) ?_
  exact kk hf ft fk fp n mk sz pl fo u2 hd mk2 sz2 ce as Hg Z H locs ls I0 (P_perm (lw_pm _ _ _).symm hP) (D_perm (lw_pm _ _ _).symm hD) hS (lv_sub hl [0, 1, 2, 3, 4] rfl)
