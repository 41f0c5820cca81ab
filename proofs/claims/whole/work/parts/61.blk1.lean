set_option maxHeartbeats 1000000 in
set_option maxRecDepth 100000 in
theorem blk_hang {p : Program} {l : Launch} {e : Env} {s : State} {m : MethodId} {below : List Frame} {meth : Method} {c : Code} {Q : State → Prop} {D : va_G} {ci : Nat → ClassId} {ad : Nat → Nat} {b L I : Nat} {xs : Nat → Int32} (hlt : l.stackTraces = false) (hx : p.tables.exec = Jvm.exec) (hb : c.code = cL_law) (hml : c.maxLocals = 8) (hown : s.vm.findClass RL = some m.cls) (hts : ∀ w ∈ wsL_law, w.before #[Value.ref b] s = true) (hX : va_X b L xs s s.heap) (hbl : b < s.heap.size) (hK : va_K D vwCl (tyC ci) s) (hE : EV ad s.heap.size s s.heap) (hNc : va_Nc nsN iaeN s) (hL : L ≤ 3072) (hI : I + 6 ≤ L) {cells slots : Nat} (hc : cells + 3 ≤ 601024) (hs : slots + 18 ≤ 7293034) (kk : LK p l e s m below meth c Q D ci ad b I (cells + 3) (slots + 18) 1104) : LK p l e s m below meth c Q D ci ad b I cells slots 112 := by
  intro hf ft fk fp n mk sz pl fo th hd mk2 sz2 ce as Hg Z H locs ls I0 hP hD hS hl
  have hbA : ¬ LA s.heap.size b := Nat.not_le.mpr hbl
  refine lv_aload_n hx hb dL_law_112 rfl (lv_at hl 1 rfl) ?_
  refine lv_aload_n hx hb dL_law_113 rfl (lv_at hl 0 rfl) ?_
  refine lv_iload hx hb dL_law_114 (lv_at hl 4 rfl) ?_
  refine lv_iconst (v := nI 1) hx hb dL_law_116 (by decide) ?_
  refine lv_iadd hx hb dL_law_117 ?_
  refine rs_sld hx hb hX hbl hbA hS (j := I + 1) (nI_add I 1) (by omega) (by omega) dL_law_118 ?_
  refine lv_aload_n hx hb dL_law_119 rfl (lv_at hl 0 rfl) ?_
  refine lv_iload hx hb dL_law_120 (lv_at hl 4 rfl) ?_
  refine lv_iconst (v := nI 2) hx hb dL_law_122 (by decide) ?_
  refine lv_iadd hx hb dL_law_123 ?_
  refine rs_sld hx hb hX hbl hbA hS (j := I + 2) (nI_add I 2) (by omega) (by omega) dL_law_124 ?_
  refine lv_aload_n hx hb dL_law_125 rfl (lv_at hl 0 rfl) ?_
  refine lv_iload hx hb dL_law_126 (lv_at hl 4 rfl) ?_
  refine lv_iconst (v := nI 3) hx hb dL_law_128 (by decide) ?_
  refine lv_iadd hx hb dL_law_129 ?_
  refine rs_sld hx hb hX hbl hbA hS (j := I + 3) (nI_add I 3) (by omega) (by omega) dL_law_130 ?_
  refine lv_aload_n hx hb dL_law_131 rfl (lv_at hl 3 rfl) ?_
  refine va_calli (vx_runSW (As := [.ref (ad 0), .int (xs (I + 1)), .int (xs (I + 2)), .int (xs (I + 3)), .ref (ad 40)]) (rest := []) ⟨hx, hb, hml, hown, hts⟩ (c_L_hang l D ci ad s.heap.size (wM ci ad th hd mk2 sz2 ce as n fk fp) hf ft fk fp n mk sz pl fo (xs (I + 1)) (xs (I + 2)) (xs (I + 3)) hlt I0.1.1 I0.1.2.1 I0.1.2.2.1 I0.1.2.2.2.1 I0.1.2.2.2.2.1 I0.1.2.2.2.2.2) (vx_cwSW 5 hts gL_law_L_hang rfl rfl rfl (by decide +kernel) ⟨Nat.le_of_ble_eq_true rfl, Nat.le_of_ble_eq_true rfl⟩) ⟨WDN.fb, fun U hU hW => ⟨rfl, WD.call hP hD hK hE hS hU hW, hNc.moved hW.alike⟩⟩ rfl rfl hl.1 rfl (lv_room (Nat.le_of_ble_eq_true rfl)) dL_law_132 ⟨by show cells + 3 ≤ 601024; omega, by show slots + 18 ≤ 7293034; omega⟩) hS (fun q _ h => h) (fun q h => h) (fun r1 u1 t1 H locs ht1 hvm1 hw1 hB1 hz1 hk1 hS => ?_)
  have hP : va_P D vwCl (wC ci ad u1.1.1 ft fk fp n u1.1.2.1 u1.1.2.2.1 u1.1.2.2.2 ++ (ad 40, .inl (ci 1, 1, .inr (.inl u1.2))) :: wM ci ad th hd mk2 sz2 ce as n fk fp) H := by rw [← ht1]; exact hB1.1
  have hD : va_D (LA s.heap.size) (wC ci ad u1.1.1 ft fk fp n u1.1.2.1 u1.1.2.2.1 u1.1.2.2.2 ++ (ad 40, .inl (ci 1, 1, .inr (.inl u1.2))) :: wM ci ad th hd mk2 sz2 ce as n fk fp) := hB1.2
  refine lv_istore (lv' := [(5, .int r1), (0, .ref b), (1, .ref (ad 0)), (2, .ref (ad 30)), (3, .ref (ad 40)), (4, .int (nI I))]) hx hb dL_law_135 hl (by decide) rfl (fun ls hl => ?_)
  refine lv_aload_n hx hb dL_law_137 rfl (lv_at hl 3 rfl) ?_
  refine lv_aload_n hx hb dL_law_138 rfl (lv_at hl 1 rfl) ?_
  refine lv_iload hx hb dL_law_139 (lv_at hl 5 rfl) ?_
  refine lv_iconst (v := nI 1) hx hb dL_law_141 (by decide) ?_
  refine lv_iadd hx hb dL_law_142 ?_
  refine rs_sld hx hb hX hbl hbA hS (j := I + 1) (nI_add I 1) (by omega) (by omega) dL_law_143 ?_
  refine lv_aload_n hx hb dL_law_144 rfl (lv_at hl 1 rfl) ?_
  refine lv_iload hx hb dL_law_145 (lv_at hl 5 rfl) ?_
  refine lv_iconst (v := nI 2) hx hb dL_law_147 (by decide) ?_
  refine lv_iadd hx hb dL_law_148 ?_
  refine rs_sld hx hb hX hbl hbA hS (j := I + 2) (nI_add I 2) (by omega) (by omega) dL_law_149 ?_
  refine lv_aload_n hx hb dL_law_150 rfl (lv_at hl 1 rfl) ?_
  refine lv_iload hx hb dL_law_151 (lv_at hl 5 rfl) ?_
  refine lv_iconst (v := nI 3) hx hb dL_law_153 (by decide) ?_
  refine lv_iadd hx hb dL_law_154 ?_
  refine rs_sld hx hb hX hbl hbA hS (j := I + 3) (nI_add I 3) (by omega) (by omega) dL_law_155 ?_
  have hP := P_perm (lw_pm _ _ _) hP
  have hD := D_perm (lw_pm _ _ _) hD
  refine va_calli (va_runV (As := [.int (xs (I + 1)), .int (xs (I + 2)), .int (xs (I + 3))]) (rest := []) ⟨hx, hb, hml, hown, hts⟩ (c_X2_hang l D ci ad s.heap.size (wC ci ad u1.1.1 ft fk fp n u1.1.2.1 u1.1.2.2.1 u1.1.2.2.2 ++ [(ad 40, .inl (ci 1, 1, .inr (.inl u1.2)))]) th hd mk2 sz2 ce as n fk fp Hg Z (xs (I + 1)) (xs (I + 2)) (xs (I + 3)) I0.2.1.1 I0.2.1.2.1 I0.1.2.2.2.2.1 I0.2.1.2.2.1 I0.2.1.2.2.2.1) (cwV 3 hts gL_law_X2_hang rfl rfl rfl (by decide +kernel) ⟨Nat.le_of_ble_eq_true rfl, Nat.le_of_ble_eq_true rfl⟩) ⟨WD.fb, (va_recv hK hP (ci := 2) (q0 := 0) rfl rfl), fun U hU hW => ⟨rfl, WD.call hP hD hK hE hS hU hW⟩⟩ rfl rfl hl.1 rfl (lv_room (Nat.le_of_ble_eq_true rfl)) dL_law_156 ⟨by show cells + 3 + 0 ≤ 601024; omega, by show slots + 18 + 0 ≤ 7293034; omega⟩) hS (fun q _ h => h) (fun q h => h) (fun r2 u2 t2 H locs ht2 hvm2 hw2 hB2 hz2 hk2 hS => ?_)
  have hP : va_P D vwCl (wM ci ad u2.1 u2.2.1 u2.2.2.1 u2.2.2.2.1 u2.2.2.2.2 as n fk fp ++ (wC ci ad u1.1.1 ft fk fp n u1.1.2.1 u1.1.2.2.1 u1.1.2.2.2 ++ [(ad 40, .inl (ci 1, 1, .inr (.inl u1.2)))])) H := by rw [← ht2]; exact hB2.1
  have hD : va_D (LA s.heap.size) (wM ci ad u2.1 u2.2.1 u2.2.2.1 u2.2.2.2.1 u2.2.2.2.2 as n fk fp ++ (wC ci ad u1.1.1 ft fk fp n u1.1.2.1 u1.1.2.2.1 u1.1.2.2.2 ++ [(ad 40, .inl (ci 1, 1, .inr (.inl u1.2)))])) := hB2.2
  obtain ⟨e1, e2, Hg1, Z1, I1⟩ := sim_hang I0 hw1 hw2
  refine lv_istore (lv' := [(6, .int r2), (5, .int r1), (0, .ref b), (1, .ref (ad 0)), (2, .ref (ad 30)), (3, .ref (ad 40)), (4, .int (nI I))]) hx hb dL_law_159 hl (by decide) rfl (fun ls hl => ?_)
  refine lv_aload_n hx hb dL_law_161 rfl (lv_at hl 4 rfl) ?_
  refine vp_callSi (toCR (va_runV (As := []) (rest := []) ⟨hx, hb, hml, hown, hts⟩ (c_X2_thrown l D ci ad s.heap.size (wC ci ad u1.1.1 ft fk fp n u1.1.2.1 u1.1.2.2.1 u1.1.2.2.2 ++ [(ad 40, .inl (ci 1, 1, .inr (.inl u1.2)))]) u2.1 u2.2.1 u2.2.2.1 u2.2.2.2.1 u2.2.2.2.2 as n fk fp) (cwV 0 hts gL_law_X2_thrown rfl rfl rfl (by decide +kernel) ⟨Nat.le_of_ble_eq_true rfl, Nat.le_of_ble_eq_true rfl⟩) ⟨WD.fb, (va_recv hK hP (ci := 2) (q0 := 0) rfl rfl), fun U hU hW => ⟨rfl, WD.call hP hD hK hE hS hU hW⟩⟩ rfl rfl hl.1 rfl (lv_room (Nat.le_of_ble_eq_true rfl)) dL_law_162 ⟨by show cells + 3 + 0 + 0 ≤ 601024; omega, by show slots + 18 + 0 + 0 ≤ 7293034; omega⟩)) (fun r3 hw3 => ?_)
  refine lv_iload hx hb dL_law_165 (lv_at hl 1 rfl) ?_
  refine lv_icmp_eq (tgt := 172) hx hb dL_law_167 (by decide) (fun _ => ?_) (fun c9 => absurd (hw3.trans e1) c9)
  refine lv_iload hx hb dL_law_172 (lv_at hl 1 rfl) ?_
  refine lv_if_ne (tgt := 189) hx hb dL_law_174 (by decide) (fun c5 => ?_) (fun c5 => ?_)
  · skip
    refine lv_goto (tgt := 1104) hx hb dL_law_189 (by decide) ?_
    refine W.widen (k := cells + 3) (n := slots + 18) (by omega) (by omega) ?_
    exact kk u1.1.1 ft fk fp n u1.1.2.1 u1.1.2.2.1 u1.1.2.2.2 u1.2 u2.1 u2.2.1 u2.2.2.1 u2.2.2.2.1 u2.2.2.2.2 as Hg1 Z1 H locs ls I1 (P_perm (lw_pm _ _ _).symm hP) (D_perm (lw_pm _ _ _).symm hD) hS (lv_sub hl [2, 3, 4, 5, 6] rfl)
  · skip
    refine lv_aload_n hx hb dL_law_177 rfl (lv_at hl 5 rfl) ?_
    refine lv_iconst (v := nI 0) hx hb dL_law_178 (by decide) ?_
    refine rw_lld hx hb hK hP 34 1 rfl rfl (j := 0) rfl (by decide) (by decide) dL_law_179 ?_
    refine lv_iload hx hb dL_law_180 (lv_at hl 0 rfl) ?_
    refine lv_i2l hx hb dL_law_182 rfl ?_
    refine lv_lcmp3 hx hb dL_law_183 (fun r5 e5 => ?_)
    refine lv_if_eq (tgt := 189) hx hb dL_law_184 (by decide) (fun _ => ?_) (fun c9 => absurd (e5.2.1.mpr (e2 c5)) c9)
    refine lv_goto (tgt := 1104) hx hb dL_law_189 (by decide) ?_
    refine W.widen (k := cells + 3) (n := slots + 18) (by omega) (by omega) ?_
    exact kk u1.1.1 ft fk fp n u1.1.2.1 u1.1.2.2.1 u1.1.2.2.2 u1.2 u2.1 u2.2.1 u2.2.2.1 u2.2.2.2.1 u2.2.2.2.2 as Hg1 Z1 H locs ls I1 (P_perm (lw_pm _ _ _).symm hP) (D_perm (lw_pm _ _ _).symm hD) hS (lv_sub hl [2, 3, 4, 5, 6] rfl)
set_option maxHeartbeats 1000000 in
set_option maxRecDepth 100000 in
theorem blk_share {p : Program} {l : Launch} {e : Env} {s : State} {m : MethodId} {below : List Frame} {meth : Method} {c : Code} {Q : State → Prop} {D : va_G} {ci : Nat → ClassId} {ad : Nat → Nat} {b L I : Nat} {xs : Nat → Int32} (hlt : l.stackTraces = false) (hx : p.tables.exec = Jvm.exec) (hb : c.code = cL_law) (hml : c.maxLocals = 8) (hown : s.vm.findClass RL = some m.cls) (hts : ∀ w ∈ wsL_law, w.before #[Value.ref b] s = true) (hX : va_X b L xs s s.heap) (hbl : b < s.heap.size) (hK : va_K D vwCl (tyC ci) s) (hE : EV ad s.heap.size s s.heap) (hNc : va_Nc nsN iaeN s) (hL : L ≤ 3072) (hI : I + 6 ≤ L) {cells slots : Nat} (hc : cells + 3 ≤ 601024) (hs : slots + 18 ≤ 7293034) (kk : LK p l e s m below meth c Q D ci ad b I (cells + 3) (slots + 18) 1104) : LK p l e s m below meth c Q D ci ad b I cells slots 192 := by
  intro hf ft fk fp n mk sz pl fo th hd mk2 sz2 ce as Hg Z H locs ls I0 hP hD hS hl
  have hbA : ¬ LA s.heap.size b := Nat.not_le.mpr hbl
  refine lv_aload_n hx hb dL_law_192 rfl (lv_at hl 1 rfl) ?_
  refine lv_aload_n hx hb dL_law_193 rfl (lv_at hl 0 rfl) ?_
  refine lv_iload hx hb dL_law_194 (lv_at hl 4 rfl) ?_
  refine lv_iconst (v := nI 1) hx hb dL_law_196 (by decide) ?_
  refine lv_iadd hx hb dL_law_197 ?_
  refine rs_sld hx hb hX hbl hbA hS (j := I + 1) (nI_add I 1) (by omega) (by omega) dL_law_198 ?_
  refine lv_aload_n hx hb dL_law_199 rfl (lv_at hl 0 rfl) ?_
  refine lv_iload hx hb dL_law_200 (lv_at hl 4 rfl) ?_
  refine lv_iconst (v := nI 2) hx hb dL_law_202 (by decide) ?_
  refine lv_iadd hx hb dL_law_203 ?_
  refine rs_sld hx hb hX hbl hbA hS (j := I + 2) (nI_add I 2) (by omega) (by omega) dL_law_204 ?_
  refine lv_aload_n hx hb dL_law_205 rfl (lv_at hl 3 rfl) ?_
  refine va_calli (vx_runSW (As := [.ref (ad 0), .int (xs (I + 1)), .int (xs (I + 2)), .ref (ad 40)]) (rest := []) ⟨hx, hb, hml, hown, hts⟩ (c_L_share l D ci ad s.heap.size (wM ci ad th hd mk2 sz2 ce as n fk fp) hf ft fk fp n mk sz pl fo (xs (I + 1)) (xs (I + 2)) hlt I0.1.1 I0.1.2.1 I0.1.2.2.1 I0.1.2.2.2.1 I0.1.2.2.2.2.1 I0.1.2.2.2.2.2) (vx_cwSW 4 hts gL_law_L_share rfl rfl rfl (by decide +kernel) ⟨Nat.le_of_ble_eq_true rfl, Nat.le_of_ble_eq_true rfl⟩) ⟨WDN.fb, fun U hU hW => ⟨rfl, WD.call hP hD hK hE hS hU hW, hNc.moved hW.alike⟩⟩ rfl rfl hl.1 rfl (lv_room (Nat.le_of_ble_eq_true rfl)) dL_law_206 ⟨by show cells + 2 ≤ 601024; omega, by show slots + 12 ≤ 7293034; omega⟩) hS (fun q _ h => h) (fun q h => h) (fun r1 u1 t1 H locs ht1 hvm1 hw1 hB1 hz1 hk1 hS => ?_)
  have hP : va_P D vwCl (wC ci ad u1.1 ft fk fp n mk sz pl ++ (ad 40, .inl (ci 1, 1, .inr (.inl u1.2))) :: wM ci ad th hd mk2 sz2 ce as n fk fp) H := by rw [← ht1]; exact hB1.1
  have hD : va_D (LA s.heap.size) (wC ci ad u1.1 ft fk fp n mk sz pl ++ (ad 40, .inl (ci 1, 1, .inr (.inl u1.2))) :: wM ci ad th hd mk2 sz2 ce as n fk fp) := hB1.2
  refine lv_istore (lv' := [(5, .int r1), (0, .ref b), (1, .ref (ad 0)), (2, .ref (ad 30)), (3, .ref (ad 40)), (4, .int (nI I))]) hx hb dL_law_209 hl (by decide) rfl (fun ls hl => ?_)
  refine lv_aload_n hx hb dL_law_211 rfl (lv_at hl 3 rfl) ?_
  refine lv_aload_n hx hb dL_law_212 rfl (lv_at hl 1 rfl) ?_
  refine lv_iload hx hb dL_law_213 (lv_at hl 5 rfl) ?_
  refine lv_iconst (v := nI 1) hx hb dL_law_215 (by decide) ?_
  refine lv_iadd hx hb dL_law_216 ?_
  refine rs_sld hx hb hX hbl hbA hS (j := I + 1) (nI_add I 1) (by omega) (by omega) dL_law_217 ?_
  refine lv_aload_n hx hb dL_law_218 rfl (lv_at hl 1 rfl) ?_
  refine lv_iload hx hb dL_law_219 (lv_at hl 5 rfl) ?_
  refine lv_iconst (v := nI 2) hx hb dL_law_221 (by decide) ?_
  refine lv_iadd hx hb dL_law_222 ?_
  refine rs_sld hx hb hX hbl hbA hS (j := I + 2) (nI_add I 2) (by omega) (by omega) dL_law_223 ?_
  have hP := P_perm (lw_pm _ _ _) hP
  have hD := D_perm (lw_pm _ _ _) hD
  refine va_calli (va_runV (As := [.int (xs (I + 1)), .int (xs (I + 2))]) (rest := []) ⟨hx, hb, hml, hown, hts⟩ (c_X2_share l D ci ad s.heap.size (wC ci ad u1.1 ft fk fp n mk sz pl ++ [(ad 40, .inl (ci 1, 1, .inr (.inl u1.2)))]) th hd mk2 sz2 ce as n fk fp Hg Z (xs (I + 1)) (xs (I + 2)) I0.2.1.1 I0.2.1.2.1 I0.1.2.2.2.2.1 I0.2.1.2.2.1 I0.2.1.2.2.2.1) (cwV 2 hts gL_law_X2_share rfl rfl rfl (by decide +kernel) ⟨Nat.le_of_ble_eq_true rfl, Nat.le_of_ble_eq_true rfl⟩) ⟨WD.fb, (va_recv hK hP (ci := 2) (q0 := 0) rfl rfl), fun U hU hW => ⟨rfl, WD.call hP hD hK hE hS hU hW⟩⟩ rfl rfl hl.1 rfl (lv_room (Nat.le_of_ble_eq_true rfl)) dL_law_224 ⟨by show cells + 2 + 0 ≤ 601024; omega, by show slots + 12 + 0 ≤ 7293034; omega⟩) hS (fun q _ h => h) (fun q h => h) (fun r2 u2 t2 H locs ht2 hvm2 hw2 hB2 hz2 hk2 hS => ?_)
  have hP : va_P D vwCl (wM ci ad u2.1 u2.2 mk2 sz2 ce as n fk fp ++ (wC ci ad u1.1 ft fk fp n mk sz pl ++ [(ad 40, .inl (ci 1, 1, .inr (.inl u1.2)))])) H := by rw [← ht2]; exact hB2.1
  have hD : va_D (LA s.heap.size) (wM ci ad u2.1 u2.2 mk2 sz2 ce as n fk fp ++ (wC ci ad u1.1 ft fk fp n mk sz pl ++ [(ad 40, .inl (ci 1, 1, .inr (.inl u1.2)))])) := hB2.2
  obtain ⟨e1, e2, Hg1, I1⟩ := sim_share I0 hw1 hw2
  refine lv_istore (lv' := [(6, .int r2), (5, .int r1), (0, .ref b), (1, .ref (ad 0)), (2, .ref (ad 30)), (3, .ref (ad 40)), (4, .int (nI I))]) hx hb dL_law_227 hl (by decide) rfl (fun ls hl => ?_)
  refine lv_aload_n hx hb dL_law_229 rfl (lv_at hl 4 rfl) ?_
  refine vp_callSi (toCR (va_runV (As := []) (rest := []) ⟨hx, hb, hml, hown, hts⟩ (c_X2_thrown l D ci ad s.heap.size (wC ci ad u1.1 ft fk fp n mk sz pl ++ [(ad 40, .inl (ci 1, 1, .inr (.inl u1.2)))]) u2.1 u2.2 mk2 sz2 ce as n fk fp) (cwV 0 hts gL_law_X2_thrown rfl rfl rfl (by decide +kernel) ⟨Nat.le_of_ble_eq_true rfl, Nat.le_of_ble_eq_true rfl⟩) ⟨WD.fb, (va_recv hK hP (ci := 2) (q0 := 0) rfl rfl), fun U hU hW => ⟨rfl, WD.call hP hD hK hE hS hU hW⟩⟩ rfl rfl hl.1 rfl (lv_room (Nat.le_of_ble_eq_true rfl)) dL_law_230 ⟨by show cells + 2 + 0 + 0 ≤ 601024; omega, by show slots + 12 + 0 + 0 ≤ 7293034; omega⟩)) (fun r3 hw3 => ?_)
  refine lv_iload hx hb dL_law_233 (lv_at hl 1 rfl) ?_
  refine lv_icmp_eq (tgt := 240) hx hb dL_law_235 (by decide) (fun _ => ?_) (fun c9 => absurd (hw3.trans e1) c9)
  refine lv_iload hx hb dL_law_240 (lv_at hl 1 rfl) ?_
  refine lv_if_ne (tgt := 257) hx hb dL_law_242 (by decide) (fun c5 => ?_) (fun c5 => ?_)
  · skip
    refine lv_goto (tgt := 1104) hx hb dL_law_257 (by decide) ?_
    refine W.widen (k := cells + 3) (n := slots + 18) (by omega) (by omega) ?_
    exact kk u1.1 ft fk fp n mk sz pl u1.2 u2.1 u2.2 mk2 sz2 ce as Hg1 Z H locs ls I1 (P_perm (lw_pm _ _ _).symm hP) (D_perm (lw_pm _ _ _).symm hD) hS (lv_sub hl [2, 3, 4, 5, 6] rfl)
  · skip
    refine lv_aload_n hx hb dL_law_245 rfl (lv_at hl 5 rfl) ?_
    refine lv_iconst (v := nI 0) hx hb dL_law_246 (by decide) ?_
    refine rw_lld hx hb hK hP 34 1 rfl rfl (j := 0) rfl (by decide) (by decide) dL_law_247 ?_
    refine lv_iload hx hb dL_law_248 (lv_at hl 0 rfl) ?_
    refine lv_i2l hx hb dL_law_250 rfl ?_
    refine lv_lcmp3 hx hb dL_law_251 (fun r5 e5 => ?_)
    refine lv_if_eq (tgt := 257) hx hb dL_law_252 (by decide) (fun _ => ?_) (fun c9 => absurd (e5.2.1.mpr (e2 c5)) c9)
    refine lv_goto (tgt := 1104) hx hb dL_law_257 (by decide) ?_
    refine W.widen (k := cells + 3) (n := slots + 18) (by omega) (by omega) ?_
    exact kk u1.1 ft fk fp n mk sz pl u1.2 u2.1 u2.2 mk2 sz2 ce as Hg1 Z H locs ls I1 (P_perm (lw_pm _ _ _).symm hP) (D_perm (lw_pm _ _ _).symm hD) hS (lv_sub hl [2, 3, 4, 5, 6] rfl)
set_option maxHeartbeats 1000000 in
set_option maxRecDepth 100000 in
theorem blk_hire {p : Program} {l : Launch} {e : Env} {s : State} {m : MethodId} {below : List Frame} {meth : Method} {c : Code} {Q : State → Prop} {D : va_G} {ci : Nat → ClassId} {ad : Nat → Nat} {b L I : Nat} {xs : Nat → Int32} (hlt : l.stackTraces = false) (hx : p.tables.exec = Jvm.exec) (hb : c.code = cL_law) (hml : c.maxLocals = 8) (hown : s.vm.findClass RL = some m.cls) (hts : ∀ w ∈ wsL_law, w.before #[Value.ref b] s = true) (hX : va_X b L xs s s.heap) (hbl : b < s.heap.size) (hK : va_K D vwCl (tyC ci) s) (hE : EV ad s.heap.size s s.heap) (hNc : va_Nc nsN iaeN s) (hL : L ≤ 3072) (hI : I + 6 ≤ L) {cells slots : Nat} (hc : cells + 3 ≤ 601024) (hs : slots + 18 ≤ 7293034) (kk : LK p l e s m below meth c Q D ci ad b I (cells + 3) (slots + 18) 1104) : LK p l e s m below meth c Q D ci ad b I cells slots 260 := by
  intro hf ft fk fp n mk sz pl fo th hd mk2 sz2 ce as Hg Z H locs ls I0 hP hD hS hl
  have hbA : ¬ LA s.heap.size b := Nat.not_le.mpr hbl
  refine lv_aload_n hx hb dL_law_260 rfl (lv_at hl 1 rfl) ?_
  refine lv_aload_n hx hb dL_law_261 rfl (lv_at hl 0 rfl) ?_
  refine lv_iload hx hb dL_law_262 (lv_at hl 4 rfl) ?_
  refine lv_iconst (v := nI 1) hx hb dL_law_264 (by decide) ?_
  refine lv_iadd hx hb dL_law_265 ?_
  refine rs_sld hx hb hX hbl hbA hS (j := I + 1) (nI_add I 1) (by omega) (by omega) dL_law_266 ?_
  refine va_calli (va_runV (As := [.int (xs (I + 1))]) (rest := []) ⟨hx, hb, hml, hown, hts⟩ (c_X1_hire l D ci ad s.heap.size ((ad 40, .inl (ci 1, 1, .inr (.inl fo))) :: wM ci ad th hd mk2 sz2 ce as n fk fp) hf ft fk fp n mk sz pl (xs (I + 1)) I0.1.2.2.2.2.1) (cwV 1 hts gL_law_X1_hire rfl rfl rfl (by decide +kernel) ⟨Nat.le_of_ble_eq_true rfl, Nat.le_of_ble_eq_true rfl⟩) ⟨WD.fb, (va_recv hK hP (ci := 1) (q0 := 0) rfl rfl), fun U hU hW => ⟨rfl, WD.call hP hD hK hE hS hU hW⟩⟩ rfl rfl hl.1 rfl (lv_room (Nat.le_of_ble_eq_true rfl)) dL_law_267 ⟨by show cells + 0 ≤ 601024; omega, by show slots + 0 ≤ 7293034; omega⟩) hS (fun q _ h => h) (fun q h => h) (fun r1 u1 t1 H locs ht1 hvm1 hw1 hB1 hz1 hk1 hS => ?_)
  have hP : va_P D vwCl (wC ci ad hf ft u1.1 fp u1.2 mk sz pl ++ (ad 40, .inl (ci 1, 1, .inr (.inl fo))) :: wM ci ad th hd mk2 sz2 ce as n fk fp) H := by rw [← ht1]; exact hB1.1
  have hD : va_D (LA s.heap.size) (wC ci ad hf ft u1.1 fp u1.2 mk sz pl ++ (ad 40, .inl (ci 1, 1, .inr (.inl fo))) :: wM ci ad th hd mk2 sz2 ce as n fk fp) := hB1.2
  refine lv_aload_n hx hb dL_law_270 rfl (lv_at hl 2 rfl) ?_
  refine lv_aload_n hx hb dL_law_271 rfl (lv_at hl 0 rfl) ?_
  refine lv_iload hx hb dL_law_272 (lv_at hl 4 rfl) ?_
  refine lv_iconst (v := nI 1) hx hb dL_law_274 (by decide) ?_
  refine lv_iadd hx hb dL_law_275 ?_
  refine rs_sld hx hb hX hbl hbA hS (j := I + 1) (nI_add I 1) (by omega) (by omega) dL_law_276 ?_
  have hP := P_perm (lw_pm _ _ _) hP
  have hD := D_perm (lw_pm _ _ _) hD
  refine va_calli (va_runV (As := [.int (xs (I + 1))]) (rest := [.int r1]) ⟨hx, hb, hml, hown, hts⟩ (c_X2_hire l D ci ad s.heap.size (wC ci ad hf ft u1.1 fp u1.2 mk sz pl ++ [(ad 40, .inl (ci 1, 1, .inr (.inl fo)))]) th hd mk2 sz2 ce as n fk fp Hg Z (xs (I + 1)) I0.2.1.1 I0.2.1.2.1 I0.1.2.2.2.2.1 I0.2.1.2.2.1 I0.2.1.2.2.2.1) (cwV 1 hts gL_law_X2_hire rfl rfl rfl (by decide +kernel) ⟨Nat.le_of_ble_eq_true rfl, Nat.le_of_ble_eq_true rfl⟩) ⟨WD.fb, (va_recv hK hP (ci := 2) (q0 := 0) rfl rfl), fun U hU hW => ⟨rfl, WD.call hP hD hK hE hS hU hW⟩⟩ rfl rfl hl.1 rfl (lv_room (Nat.le_of_ble_eq_true rfl)) dL_law_277 ⟨by show cells + 0 + 0 ≤ 601024; omega, by show slots + 0 + 0 ≤ 7293034; omega⟩) hS (fun q _ h => h) (fun q h => h) (fun r2 u2 t2 H locs ht2 hvm2 hw2 hB2 hz2 hk2 hS => ?_)
  obtain ⟨e1, e2, I1⟩ := sim_hire I0 hw1 hw2
  subst e2
  have hP : va_P D vwCl (wM ci ad 0 hd mk2 sz2 ce as u1.2 u1.1 fp ++ (wC ci ad hf ft u1.1 fp u1.2 mk sz pl ++ [(ad 40, .inl (ci 1, 1, .inr (.inl fo)))])) H := by rw [← ht2]; exact hB2.1
  have hD : va_D (LA s.heap.size) (wM ci ad 0 hd mk2 sz2 ce as u1.2 u1.1 fp ++ (wC ci ad hf ft u1.1 fp u1.2 mk sz pl ++ [(ad 40, .inl (ci 1, 1, .inr (.inl fo)))])) := hB2.2
  refine lv_icmp_eq (tgt := 1104) hx hb dL_law_280 (by decide) (fun _ => ?_) (fun c9 => absurd e1 c9)
  refine W.widen (k := cells + 3) (n := slots + 18) (by omega) (by omega) ?_
  exact kk hf ft u1.1 fp u1.2 mk sz pl fo 0 hd mk2 sz2 ce as Hg Z H locs ls I1 (P_perm (lw_pm _ _ _).symm hP) (D_perm (lw_pm _ _ _).symm hD) hS (lv_sub hl [0, 1, 2, 3, 4] rfl)
set_option maxHeartbeats 1000000 in
set_option maxRecDepth 100000 in
theorem blk_put {p : Program} {l : Launch} {e : Env} {s : State} {m : MethodId} {below : List Frame} {meth : Method} {c : Code} {Q : State → Prop} {D : va_G} {ci : Nat → ClassId} {ad : Nat → Nat} {b L I : Nat} {xs : Nat → Int32} (hlt : l.stackTraces = false) (hx : p.tables.exec = Jvm.exec) (hb : c.code = cL_law) (hml : c.maxLocals = 8) (hown : s.vm.findClass RL = some m.cls) (hts : ∀ w ∈ wsL_law, w.before #[Value.ref b] s = true) (hX : va_X b L xs s s.heap) (hbl : b < s.heap.size) (hK : va_K D vwCl (tyC ci) s) (hE : EV ad s.heap.size s s.heap) (hNc : va_Nc nsN iaeN s) (hL : L ≤ 3072) (hI : I + 6 ≤ L) {cells slots : Nat} (hc : cells + 3 ≤ 601024) (hs : slots + 18 ≤ 7293034) (kk : LK p l e s m below meth c Q D ci ad b I (cells + 3) (slots + 18) 1104) : LK p l e s m below meth c Q D ci ad b I cells slots 285 := by
  intro hf ft fk fp n mk sz pl fo th hd mk2 sz2 ce as Hg Z H locs ls I0 hP hD hS hl
  have hbA : ¬ LA s.heap.size b := Nat.not_le.mpr hbl
  refine lv_aload_n hx hb dL_law_285 rfl (lv_at hl 1 rfl) ?_
  refine lv_aload_n hx hb dL_law_286 rfl (lv_at hl 0 rfl) ?_
  refine lv_iload hx hb dL_law_287 (lv_at hl 4 rfl) ?_
  refine lv_iconst (v := nI 1) hx hb dL_law_289 (by decide) ?_
  refine lv_iadd hx hb dL_law_290 ?_
  refine rs_sld hx hb hX hbl hbA hS (j := I + 1) (nI_add I 1) (by omega) (by omega) dL_law_291 ?_
  refine lv_aload_n hx hb dL_law_292 rfl (lv_at hl 0 rfl) ?_
  refine lv_iload hx hb dL_law_293 (lv_at hl 4 rfl) ?_
  refine lv_iconst (v := nI 2) hx hb dL_law_295 (by decide) ?_
  refine lv_iadd hx hb dL_law_296 ?_
  refine rs_sld hx hb hX hbl hbA hS (j := I + 2) (nI_add I 2) (by omega) (by omega) dL_law_297 ?_
  refine lv_aload_n hx hb dL_law_298 rfl (lv_at hl 0 rfl) ?_
  refine lv_iload hx hb dL_law_299 (lv_at hl 4 rfl) ?_
  refine lv_iconst (v := nI 3) hx hb dL_law_301 (by decide) ?_
  refine lv_iadd hx hb dL_law_302 ?_
  refine rs_sld hx hb hX hbl hbA hS (j := I + 3) (nI_add I 3) (by omega) (by omega) dL_law_303 ?_
  refine lv_aload_n hx hb dL_law_304 rfl (lv_at hl 3 rfl) ?_
  refine va_calli (vx_runSW (As := [.ref (ad 0), .int (xs (I + 1)), .int (xs (I + 2)), .int (xs (I + 3)), .ref (ad 40)]) (rest := []) ⟨hx, hb, hml, hown, hts⟩ (c_L_put l D ci ad s.heap.size (wM ci ad th hd mk2 sz2 ce as n fk fp) hf ft fk fp n mk sz pl fo (xs (I + 1)) (xs (I + 2)) (xs (I + 3)) hlt I0.1.1 I0.1.2.1 I0.1.2.2.1 I0.1.2.2.2.1 I0.1.2.2.2.2.1 I0.1.2.2.2.2.2) (vx_cwSW 5 hts gL_law_L_put rfl rfl rfl (by decide +kernel) ⟨Nat.le_of_ble_eq_true rfl, Nat.le_of_ble_eq_true rfl⟩) ⟨WDN.fb, fun U hU hW => ⟨rfl, WD.call hP hD hK hE hS hU hW, hNc.moved hW.alike⟩⟩ rfl rfl hl.1 rfl (lv_room (Nat.le_of_ble_eq_true rfl)) dL_law_305 ⟨by show cells + 2 ≤ 601024; omega, by show slots + 12 ≤ 7293034; omega⟩) hS (fun q _ h => h) (fun q h => h) (fun r1 u1 t1 H locs ht1 hvm1 hw1 hB1 hz1 hk1 hS => ?_)
  have hP : va_P D vwCl (wC ci ad hf ft fk fp n mk sz u1.1 ++ (ad 40, .inl (ci 1, 1, .inr (.inl u1.2))) :: wM ci ad th hd mk2 sz2 ce as n fk fp) H := by rw [← ht1]; exact hB1.1
  have hD : va_D (LA s.heap.size) (wC ci ad hf ft fk fp n mk sz u1.1 ++ (ad 40, .inl (ci 1, 1, .inr (.inl u1.2))) :: wM ci ad th hd mk2 sz2 ce as n fk fp) := hB1.2
  refine lv_istore (lv' := [(5, .int r1), (0, .ref b), (1, .ref (ad 0)), (2, .ref (ad 30)), (3, .ref (ad 40)), (4, .int (nI I))]) hx hb dL_law_308 hl (by decide) rfl (fun ls hl => ?_)
  refine lv_aload_n hx hb dL_law_310 rfl (lv_at hl 3 rfl) ?_
  refine lv_aload_n hx hb dL_law_311 rfl (lv_at hl 1 rfl) ?_
  refine lv_iload hx hb dL_law_312 (lv_at hl 5 rfl) ?_
  refine lv_iconst (v := nI 1) hx hb dL_law_314 (by decide) ?_
  refine lv_iadd hx hb dL_law_315 ?_
  refine rs_sld hx hb hX hbl hbA hS (j := I + 1) (nI_add I 1) (by omega) (by omega) dL_law_316 ?_
  refine lv_aload_n hx hb dL_law_317 rfl (lv_at hl 1 rfl) ?_
  refine lv_iload hx hb dL_law_318 (lv_at hl 5 rfl) ?_
  refine lv_iconst (v := nI 2) hx hb dL_law_320 (by decide) ?_
  refine lv_iadd hx hb dL_law_321 ?_
  refine rs_sld hx hb hX hbl hbA hS (j := I + 2) (nI_add I 2) (by omega) (by omega) dL_law_322 ?_
  refine lv_aload_n hx hb dL_law_323 rfl (lv_at hl 1 rfl) ?_
  refine lv_iload hx hb dL_law_324 (lv_at hl 5 rfl) ?_
  refine lv_iconst (v := nI 3) hx hb dL_law_326 (by decide) ?_
  refine lv_iadd hx hb dL_law_327 ?_
  refine rs_sld hx hb hX hbl hbA hS (j := I + 3) (nI_add I 3) (by omega) (by omega) dL_law_328 ?_
  have hP := P_perm (lw_pm _ _ _) hP
  have hD := D_perm (lw_pm _ _ _) hD
  refine va_calli (va_runV (As := [.int (xs (I + 1)), .int (xs (I + 2)), .int (xs (I + 3))]) (rest := []) ⟨hx, hb, hml, hown, hts⟩ (c_X2_put l D ci ad s.heap.size (wC ci ad hf ft fk fp n mk sz u1.1 ++ [(ad 40, .inl (ci 1, 1, .inr (.inl u1.2)))]) th hd mk2 sz2 ce as n fk fp Hg Z (xs (I + 1)) (xs (I + 2)) (xs (I + 3)) I0.2.1.1 I0.2.1.2.1 I0.1.2.2.2.2.1 I0.2.1.2.2.1 I0.2.1.2.2.2.1) (cwV 3 hts gL_law_X2_put rfl rfl rfl (by decide +kernel) ⟨Nat.le_of_ble_eq_true rfl, Nat.le_of_ble_eq_true rfl⟩) ⟨WD.fb, (va_recv hK hP (ci := 2) (q0 := 0) rfl rfl), fun U hU hW => ⟨rfl, WD.call hP hD hK hE hS hU hW⟩⟩ rfl rfl hl.1 rfl (lv_room (Nat.le_of_ble_eq_true rfl)) dL_law_329 ⟨by show cells + 2 + 0 ≤ 601024; omega, by show slots + 12 + 0 ≤ 7293034; omega⟩) hS (fun q _ h => h) (fun q h => h) (fun r2 u2 t2 H locs ht2 hvm2 hw2 hB2 hz2 hk2 hS => ?_)
  have hP : va_P D vwCl (wM ci ad u2.1 hd mk2 sz2 u2.2 as n fk fp ++ (wC ci ad hf ft fk fp n mk sz u1.1 ++ [(ad 40, .inl (ci 1, 1, .inr (.inl u1.2)))])) H := by rw [← ht2]; exact hB2.1
  have hD : va_D (LA s.heap.size) (wM ci ad u2.1 hd mk2 sz2 u2.2 as n fk fp ++ (wC ci ad hf ft fk fp n mk sz u1.1 ++ [(ad 40, .inl (ci 1, 1, .inr (.inl u1.2)))])) := hB2.2
  obtain ⟨e1, e2, I1⟩ := sim_put I0 hw1 hw2
  refine lv_istore (lv' := [(6, .int r2), (5, .int r1), (0, .ref b), (1, .ref (ad 0)), (2, .ref (ad 30)), (3, .ref (ad 40)), (4, .int (nI I))]) hx hb dL_law_332 hl (by decide) rfl (fun ls hl => ?_)
  refine lv_aload_n hx hb dL_law_334 rfl (lv_at hl 4 rfl) ?_
  refine vp_callSi (toCR (va_runV (As := []) (rest := []) ⟨hx, hb, hml, hown, hts⟩ (c_X2_thrown l D ci ad s.heap.size (wC ci ad hf ft fk fp n mk sz u1.1 ++ [(ad 40, .inl (ci 1, 1, .inr (.inl u1.2)))]) u2.1 hd mk2 sz2 u2.2 as n fk fp) (cwV 0 hts gL_law_X2_thrown rfl rfl rfl (by decide +kernel) ⟨Nat.le_of_ble_eq_true rfl, Nat.le_of_ble_eq_true rfl⟩) ⟨WD.fb, (va_recv hK hP (ci := 2) (q0 := 0) rfl rfl), fun U hU hW => ⟨rfl, WD.call hP hD hK hE hS hU hW⟩⟩ rfl rfl hl.1 rfl (lv_room (Nat.le_of_ble_eq_true rfl)) dL_law_335 ⟨by show cells + 2 + 0 + 0 ≤ 601024; omega, by show slots + 12 + 0 + 0 ≤ 7293034; omega⟩)) (fun r3 hw3 => ?_)
  refine lv_iload hx hb dL_law_338 (lv_at hl 1 rfl) ?_
  refine lv_icmp_eq (tgt := 345) hx hb dL_law_340 (by decide) (fun _ => ?_) (fun c9 => absurd (hw3.trans e1) c9)
  refine lv_iload hx hb dL_law_345 (lv_at hl 1 rfl) ?_
  refine lv_if_ne (tgt := 362) hx hb dL_law_347 (by decide) (fun c5 => ?_) (fun c5 => ?_)
  · skip
    refine lv_goto (tgt := 1104) hx hb dL_law_362 (by decide) ?_
    refine W.widen (k := cells + 3) (n := slots + 18) (by omega) (by omega) ?_
    exact kk hf ft fk fp n mk sz u1.1 u1.2 u2.1 hd mk2 sz2 u2.2 as Hg Z H locs ls I1 (P_perm (lw_pm _ _ _).symm hP) (D_perm (lw_pm _ _ _).symm hD) hS (lv_sub hl [2, 3, 4, 5, 6] rfl)
  · skip
    refine lv_aload_n hx hb dL_law_350 rfl (lv_at hl 5 rfl) ?_
    refine lv_iconst (v := nI 0) hx hb dL_law_351 (by decide) ?_
    refine rw_lld hx hb hK hP 34 1 rfl rfl (j := 0) rfl (by decide) (by decide) dL_law_352 ?_
    refine lv_iload hx hb dL_law_353 (lv_at hl 0 rfl) ?_
    refine lv_i2l hx hb dL_law_355 rfl ?_
    refine lv_lcmp3 hx hb dL_law_356 (fun r5 e5 => ?_)
    refine lv_if_eq (tgt := 362) hx hb dL_law_357 (by decide) (fun _ => ?_) (fun c9 => absurd (e5.2.1.mpr (e2 c5)) c9)
    refine lv_goto (tgt := 1104) hx hb dL_law_362 (by decide) ?_
    refine W.widen (k := cells + 3) (n := slots + 18) (by omega) (by omega) ?_
    exact kk hf ft fk fp n mk sz u1.1 u1.2 u2.1 hd mk2 sz2 u2.2 as Hg Z H locs ls I1 (P_perm (lw_pm _ _ _).symm hP) (D_perm (lw_pm _ _ _).symm hD) hS (lv_sub hl [2, 3, 4, 5, 6] rfl)
